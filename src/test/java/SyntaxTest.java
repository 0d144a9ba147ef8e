/** Term 4: what is a sentence (fault 3), and where it may stand (fault 4). */
public final class SyntaxTest {
    private static final String SYMBOLS = "predicate P 0. predicate Q 1. predicate R 2. function c 0. function f 1. function g 2. ";
    private static final String SIX = "0 0 0 0 0 0 ";

    public static void main(String[] args) {
        formulas();
        wrongFormulas();
        nesting();
        sentences();
        notHere();
        Client.end();
    }

    private static void dueAxiom(String formula, String fault) {
        Client.dueFaults(SYMBOLS + "axiom a : " + formula + ".", SIX + fault);
    }

    private static void formulas() {
        String[] fine = {"P", "False", "~P", "~~P", "~ ~ False", "P->P", "P -> P -> P", "P*P+P", "(P)", "((P))", "Q(c)", "Q(f(c))", "R(c,g(c,f(c)))",
            "c = c", "~ c = f(c)", "forall x, Q(x)", "exists x, Q(x) -> P", "forall x, exists y, R(x, y) * x = y", "P * forall x, Q(x) + P",
            "~ forall x, Q(x)", "(forall x, Q(x)) -> P", "forall lemma, Q(lemma)", "forall qed, P", "P(* c *)->(* (* d *) *)P", "forall x', Q(x')"};
        for (String formula : fine) {
            dueAxiom(formula, "0");
        }
    }

    private static void wrongFormulas() {
        String[] wrong = {"", "P P", "P -> ", "-> P", "P - > P", "P * * P", "(P", "P)", "()", "P()", "Q(c", "Q c", "Q(c,)", "Q(,c)", "~", "forall x Q(x)",
            "forall , P", "forall forall, P", "forall False, P", "exists exists, P", "forall 1, P", "Q(False)", "Q(forall)", "False = c", "c = False",
            "(c) = c", "c = (c)", "c = c = c", "P : P", "Q(1)", "P & P", "P | P", "P.P", "Q(Q(c) -> P)", "abcdefghijk", "P -> \u00e9", "_P", "False(c)"};
        for (String formula : wrong) {
            dueAxiom(formula, "3");
        }
    }

    private static void nesting() {
        dueAxiom(Client.repeat("(", 12) + "P" + Client.repeat(")", 12), "0");
        dueAxiom(Client.repeat("(", 13) + "P" + Client.repeat(")", 13), "3");
        dueAxiom(Client.repeat("~", 12) + "P", "0");
        dueAxiom(Client.repeat("~", 13) + "P", "3");
        dueAxiom(Client.repeat("forall x, ", 12) + "P", "0");
        dueAxiom(Client.repeat("exists x, ", 13) + "P", "3");
        dueAxiom("Q(" + Client.repeat("f(", 11) + "c" + Client.repeat(")", 12), "0");
        dueAxiom("Q(" + Client.repeat("f(", 12) + "c" + Client.repeat(")", 13), "3");
        dueAxiom("(~forall x, " + Client.repeat("(", 8) + "Q(x)" + Client.repeat(")", 9), "0");
        dueAxiom("(~forall x, " + Client.repeat("(", 9) + "Q(x)" + Client.repeat(")", 10), "3");
        dueAxiom("(~forall x, " + Client.repeat("(", 9) + "P" + Client.repeat(")", 10), "0");
        dueAxiom(Client.repeat("(", 12) + "P" + Client.repeat(")", 12) + " * " + Client.repeat("~", 12) + "P", "0");
        // A long chain is no nesting: it is only too large.
        dueAxiom("P" + Client.repeat("->P", 400), "9");
        dueAxiom("P" + Client.repeat("*P+P", 300), "9");
        dueAxiom("R(c" + Client.repeat(",c", 600) + ")", "5");
    }

    private static void sentences() {
        String[] wrong = {"function", "function f", "function f 4", "function f 12", "function f x", "function forall 1", "predicate P 0 0", "axiom a P",
            "axiom : P", "axiom a : P P", "lemma l", "lemma False : P", "qed qed", "abort x", "intro", "intro x y", "intro forall", "intro 1", "exact",
            "apply h k", "split x", "left 1", "right (", "cases h", "cases h a", "cases h a b c", "absurd", "give", "give P -> P", "give (c)", "give forall",
            "use h", "use h c", "use h c a b", "use h f( c a", "same x", "rewrite", "have x", "have x : ", "have : P", "Lemma l : P", "QED", "Intro x",
            "prove x", "1", "x", "(", ":"};
        for (String sentence : wrong) {
            Client.dueFaults(sentence + ".", "3");
            Client.dueFaults("predicate P 0. lemma l : P -> P. " + sentence + ".", "0 0 3");
        }
        Client.dueFaults("predicate intro 0. function lemma 0. axiom qed : intro. lemma abort : intro -> lemma = lemma. intro exact. same.", "0 0 0 0 0 0");
    }

    private static void notHere() {
        String[] tactics = {"intro x", "exact h", "apply h", "split", "left", "right", "cases h a b", "absurd h", "give c", "use h c a", "same", "rewrite h",
            "have a : P", "qed", "abort"};
        for (String tactic : tactics) {
            Client.dueFaults(tactic + ".", "4");
        }
        String[] others = {"function f 0", "predicate P 0", "axiom a : P", "lemma m : P", "axiom l : Nothing"};
        for (String other : others) {
            Client.dueFaults("predicate P 0. lemma l : P. " + other + ".", "0 0 4");
            Client.dueFaults("predicate P 0. axiom p : P. lemma l : P. exact p. " + other + ".", "0 0 0 0 4");
        }
        Client.dueFaults("predicate P 0. lemma l : P. abort. abort. qed. lemma l : P.", "0 0 0 4 4 0");
    }
}
