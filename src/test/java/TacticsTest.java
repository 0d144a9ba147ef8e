/** Term 4: what the tactics do (promises 11 to 13). */
public final class TacticsTest {
    private static final String SYMBOLS = "predicate A 0. predicate B 0. predicate Q 1. predicate R 2. function c 0. function f 1. function g 2. ";

    public static void main(String[] args) {
        introAndExact();
        apply();
        connectives();
        cases();
        quantifiers();
        equality();
        have();
        endings();
        Client.end();
    }

    /** The goals behind a proof's last sentence, and that its sentences (behind the symbols and axioms) have these faults. */
    private static void due(String proof, String faults, String... goals) {
        Client client = new Client();
        int count = client.batch(SYMBOLS + proof);
        String all = client.verdicts(2);
        Client.due("faults of " + proof, all.substring(Math.min(14, all.length())), faults);
        StringBuilder want = new StringBuilder("{\"proof\":\"l\",\"goals\":[");
        for (int i = 0; i < goals.length; i++) {
            want.append(i > 0 ? ",\"" : "\"").append(goals[i]).append('"');
        }
        Client.due("goals of " + proof, client.goals(count - 1), want.append("]}").toString());
        Client.due("how many of " + proof, client.server.verdict(count - 1, 4), goals.length);
    }

    private static void introAndExact() {
        due("lemma l : A -> B -> A. intro h. intro k.", "0 0 0", "h : A, k : B, |- A");
        due("lemma l : A -> B -> A. intro h. intro k. exact h.", "0 0 0 0");
        due("lemma l : A -> B -> A. intro h. intro k. exact k.", "0 0 0 8", "h : A, k : B, |- A");
        due("lemma l : ~A. intro h.", "0 0", "h : A, |- False");
        due("lemma l : forall x, forall y, R(x, y). intro y. intro x.", "0 0 0", "y x |- R(y, x)");
        due("lemma l : A * B. intro h.", "0 8", "|- A * B");
        due("axiom a : forall x, exists y, R(x, y). lemma l : forall u, exists v, R(u, v). exact a.", "0 0 0");
        due("axiom a : forall x, exists y, R(y, x). lemma l : forall u, exists v, R(u, v). exact a.", "0 0 8", "|- forall u, exists v, R(u, v)");
        due("axiom a : forall x, forall x, Q(x). lemma l : forall u, forall v, Q(v). exact a.", "0 0 0");
        due("axiom a : forall x, forall x, Q(x). lemma l : forall u, forall v, Q(u). exact a.", "0 0 8", "|- forall u, forall v, Q(u)");
        due("axiom a : forall x, Q(x). lemma l : exists x, Q(x). exact a.", "0 0 8", "|- exists x, Q(x)");
        due("axiom h : A. lemma l : B -> A. intro h. intro k. exact h.", "0 0 6 0 0");
    }

    private static void apply() {
        due("axiom a : A -> B -> A. lemma l : A. apply a.", "0 0 0", "|- A", "|- B");
        due("axiom a : A -> B -> A. lemma l : B -> A. apply a.", "0 0 0", "|- A");
        due("axiom a : A -> B -> A. lemma l : A -> B -> A. apply a.", "0 0 0");
        due("axiom a : A -> B. lemma l : A. apply a.", "0 0 8", "|- A");
        due("axiom a : A -> A. lemma l : A -> A. apply a.", "0 0 0");
        due("axiom a : forall x, forall y, R(x, y) -> Q(y) -> R(y, x). lemma l : R(f(c), c). apply a.", "0 0 0", "|- R(c, f(c))", "|- Q(f(c))");
        due("axiom a : forall x, R(x, x). lemma l : R(f(c), f(c)). apply a.", "0 0 0");
        due("axiom a : forall x, R(x, x). lemma l : R(f(c), c). apply a.", "0 0 8", "|- R(f(c), c)");
        due("axiom a : forall x, forall y, R(x, y) -> Q(x). lemma l : Q(c). apply a.", "0 0 8", "|- Q(c)");
        due("axiom a : forall x, Q(x) -> exists y, R(x, y). lemma l : exists z, R(f(c), z). apply a.", "0 0 0", "|- Q(f(c))");
        due("axiom a : forall x, Q(x) -> exists y, R(y, x). lemma l : exists z, R(z, z). apply a.", "0 0 8", "|- exists z, R(z, z)");
        due("axiom a : forall x, exists y, R(y, g(x, y)) -> Q(x). lemma l : exists z, R(z, g(f(c), z)) -> Q(f(c)). apply a.", "0 0 0");
        due("axiom a : forall x, Q(x) -> forall x, R(x, x). lemma l : forall z, R(z, z). apply a.", "0 0 8", "|- forall z, R(z, z)");
        due("axiom a : ~A. lemma l : False. apply a.", "0 0 0", "|- A");
        due("axiom a : forall a, forall b, forall d, forall e, forall h, forall i, forall j, forall k, forall m, forall n, forall o, forall p, "
                + "b = a -> e = d -> i = h -> k = j -> n = m -> p = p -> a = b * d = e * h = i * j = k * m = n * o = p. "
                + "lemma l : c = f(c) * c = c * f(c) = c * c = f(f(c)) * f(c) = f(c) * f(f(c)) = g(c, c). apply a.", "0 0 0",
                "|- f(c) = c", "|- c = c", "|- c = f(c)", "|- f(f(c)) = c", "|- f(c) = f(c)", "|- g(c, c) = g(c, c)");
        due("axiom a : forall x, Q(x). lemma l : forall x, Q(x). apply a.", "0 0 8", "|- forall x, Q(x)");
        due("axiom a : forall x, x = f(x) -> A. lemma l : c = f(c) -> A. apply a.", "0 0 0");
        due("axiom a : forall x, Q(x) -> Q(f(x)). lemma l : A -> forall z, Q(z) -> Q(f(z)). intro h. intro y. intro k. apply a.",
                "0 0 0 0 0 0", "y h : A, k : Q(y), |- Q(y)");
    }

    private static void connectives() {
        due("lemma l : A * B * A. split.", "0 0", "|- A", "|- B * A");
        due("lemma l : A -> A * B. intro h. split. exact h.", "0 0 0 0", "h : A, |- B");
        due("lemma l : A + B. left.", "0 0", "|- A");
        due("lemma l : A + B. right.", "0 0", "|- B");
        due("lemma l : A * B. left. right.", "0 8 8", "|- A * B");
        due("lemma l : A + B. split.", "0 8", "|- A + B");
        due("lemma l : False -> A. intro h. absurd h.", "0 0 0");
        due("lemma l : ~A -> A. intro h. absurd h.", "0 0 8", "h : A -> False, |- A");
        due("axiom no : False. lemma l : A. absurd no.", "0 0 0");
    }

    private static void cases() {
        due("lemma l : A -> A * B -> A -> B. intro h. intro k. intro m. cases k u v.", "0 0 0 0 0", "h : A, m : A, u : A, v : B, |- B");
        due("lemma l : A + B -> A -> B. intro h. intro k. cases h u v.", "0 0 0 0", "k : A, u : A, |- B", "k : A, v : B, |- B");
        due("lemma l : (exists x, R(x, c)) -> A. intro h. cases h x k.", "0 0 0", "x k : R(x, c), |- A");
        due("lemma l : (exists x, forall y, R(x, y)) -> A. intro h. cases h y k.", "0 0 0", "y k : forall y', R(y, y'), |- A");
        due("lemma l : (A -> B) -> A. intro h. cases h u v.", "0 0 8", "h : A -> B, |- A");
        due("axiom a : A * B. lemma l : A. cases a u v.", "0 0 5", "|- A");
        due("lemma l : A * B -> A. intro h. cases h u v. exact h.", "0 0 0 5", "u : A, v : B, |- A");
        due("lemma l : A * B -> A. intro h. cases h u v. intro h.", "0 0 0 8", "u : A, v : B, |- A");
    }

    private static void quantifiers() {
        due("lemma l : exists x, R(x, f(x)). give f(c).", "0 0", "|- R(f(c), f(f(c)))");
        due("lemma l : forall y, exists x, forall y, R(x, y). intro y. give y.", "0 0 0", "y |- forall y', R(y, y')");
        due("lemma l : exists x, A. give f(f(c)).", "0 0", "|- A");
        due("lemma l : A. give c.", "0 8", "|- A");
        due("axiom a : forall x, exists y, R(x, y). lemma l : forall y, A. intro y. use a f(y) h.", "0 0 0 0", "y h : exists y', R(f(y), y'), |- A");
        due("lemma l : (forall x, Q(x)) -> A. intro h. use h c k. use h f(c) m.", "0 0 0 0", "h : forall x, Q(x), k : Q(c), m : Q(f(c)), |- A");
        due("lemma l : (exists x, Q(x)) -> A. intro h. use h c k.", "0 0 8", "h : exists x, Q(x), |- A");
    }

    private static void equality() {
        due("lemma l : f(c) = f(c). same.", "0 0");
        due("lemma l : f(c) = c. same.", "0 8", "|- f(c) = c");
        due("lemma l : A. same.", "0 8", "|- A");
        due("lemma l : g(c, c) = c -> R(c, g(c, c)) * Q(f(g(c, c))). intro h. rewrite h.", "0 0 0", "h : g(c, c) = c, |- R(c, c) * Q(f(c))");
        due("lemma l : f(f(c)) = f(c) -> Q(f(f(f(c)))). intro h. rewrite h.", "0 0 0", "h : f(f(c)) = f(c), |- Q(f(f(c)))");
        due("lemma l : c = f(c) -> R(c, f(c)). intro h. rewrite h.", "0 0 0", "h : c = f(c), |- R(f(c), f(f(c)))");
        due("lemma l : c = f(c) -> forall x, R(x, c). intro h. rewrite h.", "0 0 0", "h : c = f(c), |- forall x, R(x, f(c))");
        due("lemma l : forall x, x = c -> forall y, exists x, R(x, y). intro x. intro h. rewrite h.", "0 0 0 8", "x h : x = c, |- forall y, exists x, R(x, y)");
        due("lemma l : forall y, c = y -> forall y, R(c, y). intro y. intro h. rewrite h.", "0 0 0 0", "y h : c = y, |- forall y', R(y, y')");
        due("lemma l : A -> A. intro h. rewrite h.", "0 0 8", "h : A, |- A");
        due("axiom a : forall x, f(x) = x. lemma l : Q(f(c)). rewrite a. use a c h. rewrite h.", "0 0 8 0 0", "h : f(c) = c, |- Q(c)");
    }

    private static void have() {
        due("lemma l : forall x, Q(x) -> A. intro x. intro h. have k : Q(f(x)).", "0 0 0 0", "x h : Q(x), |- Q(f(x))", "x h : Q(x), k : Q(f(x)), |- A");
        due("lemma l : A * B. split. have k : B.", "0 0 0", "|- B", "k : B, |- A", "|- B");
    }

    private static void endings() {
        Client client = new Client();
        client.batch(SYMBOLS + "lemma l : A -> A. qed. intro h. exact h. qed. lemma m : A. exact l. abort.");
        Client.due("faults", client.verdicts(2), "0 0 0 0 0 0 0 0 7 0 0 0 0 8 0");
        Client.due("facts", client.verdicts(5), "0 0 0 0 0 0 0 0 0 0 0 1 1 1 1");
        Client.due("goals", client.verdicts(4), "-1 -1 -1 -1 -1 -1 -1 1 1 1 0 -1 1 1 -1");
        Client.due("behind qed", client.goals(11), "null");
        Client.due("behind exact", client.goals(10), "{\"proof\":\"l\",\"goals\":[]}");
    }
}
