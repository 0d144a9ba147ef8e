/** The boundary cases of the document's term 4, SENTENCES, from the state on: its numbers, the faults and their order, tactics, printing. */
public final class StateEdgesTest {
    private static final String EIGHT = "intro a. intro b. intro d. intro e. intro g. intro h. intro i. intro j. ";

    public static void main(String[] args) {
        atTheBeginning();
        symbols();
        facts();
        factsAtQed();
        goalsByHave();
        goalsByOthers();
        variables();
        hypotheses();
        nodesThatAreRead();
        nodesThatAreMade();
        nothingIsChanged();
        orderOfFaults();
        fromTheLeft();
        freeNames();
        whatANameIs();
        withoutGoals();
        openGoals();
        leastPremises();
        tellsEachTerm();
        casesNames();
        rewriting();
        upToBoundNames();
        primes();
        parentheses();
        answers();
        Client.end();
    }

    /** That all sentences of a text are fine but the last one, which has this fault. */
    private static void dueLast(String text, int fault) {
        Client client = new Client();
        int count = client.batch(text);
        StringBuilder want = new StringBuilder();
        for (int k = 0; k < count - 1; k++) {
            want.append("0 ");
        }
        Client.due("faults of " + text, client.verdicts(2), want.append(fault).toString());
    }

    private static String goalsOf(String name, String... goals) {
        StringBuilder row = new StringBuilder("{\"proof\":\"" + name + "\",\"goals\":[");
        for (int i = 0; i < goals.length; i++) {
            row.append(i > 0 ? ",\"" : "\"").append(goals[i]).append('"');
        }
        return row.append("]}").toString();
    }

    /** "At the beginning there is nothing." */
    private static void atTheBeginning() {
        Client.dueFaults("axiom a : P.", "5");
        Client.dueFaults("axiom a : c = c.", "5");
        Client.dueFaults("axiom a : False.", "0");
        Client.dueFaults("qed. abort. exact a.", "4 4 4");
        Client client = new Client();
        client.batch("");
        Client.due("ahead of all", client.goals(-1), "null");
        client.batch("predicate P 0.");
        client.batch("axiom a : P.");
        Client.due("a batch begins anew", client.verdicts(2), "5");
    }

    private static String declared(int functions, int predicates) {
        StringBuilder row = new StringBuilder();
        for (int i = 0; i < functions; i++) {
            row.append("function f").append(i).append(" 0. ");
        }
        for (int i = 0; i < predicates; i++) {
            row.append("predicate P").append(i).append(" 0. ");
        }
        return row.toString();
    }

    /** "FUNCTIONS and PREDICATES (at most 16 symbols together" */
    private static void symbols() {
        dueLast(declared(16, 0), 0);
        dueLast(declared(0, 16), 0);
        dueLast(declared(8, 8), 0);
        dueLast(declared(17, 0), 9);
        dueLast(declared(0, 17), 9);
        dueLast(declared(16, 1), 9);
        dueLast(declared(1, 16), 9);
        dueLast(declared(15, 1) + "axiom a : P0 * f14 = f0.", 0);
        Client.dueFaults(declared(1, 15) + "predicate Q 0. axiom a : Q. axiom Q : P14. function Q 0. predicate R 1.", "0 0 0 0 0 0 0 0 0 0 0 0 0 0 0 0 9 5 0 6 9");
    }

    private static String axioms(int count) {
        StringBuilder row = new StringBuilder("predicate P 0. ");
        for (int i = 0; i < count; i++) {
            row.append("axiom a").append(i).append(" : P. ");
        }
        return row.toString();
    }

    /** "FACTS (at most 16" */
    private static void facts() {
        dueLast(axioms(15), 0);
        dueLast(axioms(16), 0);
        dueLast(axioms(17), 9);
        Client client = new Client();
        client.batch(axioms(18) + "lemma l : P. exact a15. exact a16. abort. predicate a16 0. axiom b : P.");
        Client.due("faults", client.verdicts(2), "0 0 0 0 0 0 0 0 0 0 0 0 0 0 0 0 0 9 9 0 0 5 0 0 9");
        Client.due("facts", client.verdicts(5), "0 1 2 3 4 5 6 7 8 9 10 11 12 13 14 15 16 16 16 16 16 16 16 16 16");
    }

    /** "(The lemma's name is looked at when it begins; at qed 9 when there are 16 facts.)" */
    private static void factsAtQed() {
        dueLast(axioms(15) + "lemma l : P. exact a0. qed.", 0);
        dueLast(axioms(15) + "lemma l : P. exact a0. qed. axiom b : P.", 9);
        dueLast(axioms(16) + "lemma l : P. exact a0. qed.", 9);
        dueLast(axioms(16) + "lemma a15 : P.", 6);
        Client client = new Client();
        client.batch(axioms(16) + "lemma l : P. qed. exact a0. qed. qed. abort. lemma l : P.");
        Client.due("faults", client.verdicts(2).substring(34), "0 7 0 9 9 0 0");
        Client.due("goals", client.verdicts(4).substring(51), "1 1 0 0 0 -1 1");
        Client.due("facts", client.server.verdict(23, 5), 16);
        Client.due("the proof goes on", client.goals(20), goalsOf("l"));
    }

    /** "its GOALS, in order (at most 6)" */
    private static void goalsByHave() {
        String begin = "predicate P 0. axiom p : P. lemma l : P. ";
        dueLast(begin + Client.repeat("have h : P. ", 5), 0);
        dueLast(begin + Client.repeat("have h : P. ", 6), 9);
        Client client = new Client();
        client.batch(begin + Client.repeat("have h : P. ", 6) + "exact p. have k : P. exact p. exact p. exact p. exact p. exact p. qed. exact p. qed.");
        Client.due("faults", client.verdicts(2), "0 0 0 0 0 0 0 0 9 0 0 0 0 0 0 0 7 0 0");
        Client.due("goals", client.verdicts(4), "-1 -1 1 2 3 4 5 6 6 5 6 5 4 3 2 1 1 0 -1");
    }

    private static void goalsByOthers() {
        String begin = "predicate P 0. axiom p : P. axiom one : P -> P. axiom two : P -> P -> P. axiom six : P -> P -> P -> P -> P -> P -> P. "
                + "axiom seven : P -> P -> P -> P -> P -> P -> P -> P. ";
        dueLast(begin + "lemma l : P. apply six.", 0);
        dueLast(begin + "lemma l : P. apply seven.", 9);
        dueLast(begin + "lemma l : P. have h : P. apply six.", 9);
        dueLast(begin + "lemma l : P. apply six. apply one.", 0);
        dueLast(begin + "lemma l : P. apply six. apply p.", 0);
        dueLast(begin + "lemma l : P. apply six. apply two.", 9);
        dueLast(begin + "lemma l : P. apply six. have h : P.", 9);
        dueLast(begin + "lemma l : P. apply six. exact p. apply two.", 0);
        dueLast(begin + "lemma l : P * P. " + Client.repeat("have h : P * P. ", 4) + "split.", 0);
        dueLast(begin + "lemma l : P * P. " + Client.repeat("have h : P * P. ", 5) + "split.", 9);
        dueLast(begin + "lemma l : P + P. " + Client.repeat("have h : P + P. ", 5) + "left.", 0);
        String either = "lemma l : P + P -> P. intro k. ";
        dueLast(begin + either + Client.repeat("have h : P. ", 4) + "cases k u v.", 0);
        dueLast(begin + either + Client.repeat("have h : P. ", 5) + "cases k u v.", 9);
        String both = "lemma l : P * P -> P. intro k. ";
        dueLast(begin + both + Client.repeat("have h : P. ", 5) + "cases k u v.", 0);
        Client.dueGoals(begin + "lemma l : P. apply six. apply two. apply one.", goalsOf("l", "|- P", "|- P", "|- P", "|- P", "|- P", "|- P"));
    }

    /** "VARIABLES (at most 6)" */
    private static void variables() {
        String begin = "predicate P 0. lemma l : (exists x, P) -> " + Client.repeat("forall x, ", 7) + "P. intro s. ";
        String five = "intro a. intro b. intro d. intro e. intro g. ";
        dueLast(begin + five + "intro h.", 0);
        dueLast(begin + five + "intro h. intro i.", 9);
        dueLast(begin + five + "cases s u v.", 0);
        dueLast(begin + five + "intro h. cases s u v.", 9);
        Client.dueGoals(begin + five + "intro h. intro i. cases s u v.", goalsOf("l", "a b d e g h s : exists x, P, |- forall x, P"));
        Client.dueFaults(begin + five + "intro h. intro i. cases s u v. have k : P.", "0 0 0 0 0 0 0 0 0 9 9 0");
    }

    /** "HYPOTHESES (at most 8" */
    private static void hypotheses() {
        String symbols = "predicate P 0. function c 0. axiom all : forall x, P. ";
        String nine = Client.repeat("P -> ", 8) + "P. ";
        String begin = symbols + "lemma l : P -> " + nine;
        dueLast(begin + EIGHT, 0);
        dueLast(begin + EIGHT + "intro k.", 9);
        dueLast(begin + EIGHT + "use all c k.", 9);
        dueLast(begin + EIGHT + "have k : P.", 9);
        dueLast(begin + EIGHT.substring(0, 63) + "use all c k.", 0);
        dueLast(begin + EIGHT.substring(0, 63) + "have k : P.", 0);
        dueLast(symbols + "lemma l : P * P -> " + nine + EIGHT + "cases a u v.", 9);
        dueLast(symbols + "lemma l : P * P -> " + nine + EIGHT.substring(0, 63) + "cases a u v.", 0);
        dueLast(symbols + "lemma l : P * P -> " + nine + EIGHT.substring(0, 63) + "cases a u v. intro k.", 9);
        dueLast(symbols + "lemma l : P + P -> " + nine + EIGHT + "cases a u v.", 0);
        dueLast(symbols + "lemma l : (exists x, P) -> " + nine + EIGHT + "cases a u v.", 0);
        Client.dueGoals(begin + EIGHT + "intro k. use all c k. have k : P.",
                goalsOf("l", "a : P, b : P, d : P, e : P, g : P, h : P, i : P, j : P, |- P -> P"));
    }

    private static final String NODES = "predicate P 0. predicate Q 1. predicate T 3. function c 0. function f 1. function g 3. ";

    /** Formulas of 80 nodes, and of 81: P and an arrow are two, so 39 of them and one P are 79. */
    private static void dueNodes(String two, String one) {
        String arrows = Client.repeat("P -> ", 39);
        String plus = Client.repeat("P -> ", 38);
        for (String word : new String[] {"axiom", "lemma"}) {
            dueLast(NODES + word + " a : " + arrows + two + ".", 9);
            dueLast(NODES + word + " a : " + plus + two + ".", 0);
            dueLast(NODES + word + " a : forall x, " + arrows + one + ".", 0);
            dueLast(NODES + word + " a : forall x, exists y, " + arrows + one + ".", 9);
        }
        dueLast(NODES + "lemma l : P. have h : forall x, " + arrows + one + ".", 0);
        dueLast(NODES + "lemma l : P. have h : forall x, exists y, " + arrows + one + ".", 9);
    }

    /** "a formula of more than 80 NODES: each name of a symbol, variable or bound name, =, ->, *, +, quantifier (its name with it) and False counts 1" */
    private static void nodesThatAreRead() {
        dueNodes("c = c", "P");
        dueNodes("~P", "False");
        dueNodes("P * P", "P");
        dueNodes("P + False", "P");
        dueNodes("Q(f(c))", "((P))");
        dueNodes("exists y, Q(y)", "P");
        String begin = NODES + "lemma l : forall v, P. intro v. have h : " + Client.repeat("P -> ", 38);
        dueLast(begin + "v = v.", 0);
        dueLast(begin + "Q(f(f(v))).", 0);
        dueLast(begin + "f(v) = v.", 0);
        dueLast(begin + "f(v) = f(v).", 9);
        dueLast(begin + "g(v, v, v) = v.", 9);
        dueLast(begin + "T(v, c, v).", 0);
        dueLast(begin + "T(v, c, f(v)).", 9);
        dueLast(begin + "~ ~ P.", 9);
        dueLast(begin + "~ Q(c).", 0);
    }

    /** A term of so many nodes, and not deep. */
    private static String term(int nodes) {
        if (nodes <= 3) {
            return Client.repeat("f(", nodes - 1) + "c" + Client.repeat(")", nodes - 1);
        }
        int third = (nodes - 1) / 3;
        return "g(" + term(third) + ", " + term(third) + ", " + term(nodes - 1 - 2 * third) + ")";
    }

    private static void nodesThatAreMade() {
        for (int over = 0; over <= 1; over++) {
            int fault = over == 0 ? 0 : 9;
            String deeper = over == 0 ? "x" : "f(x)";
            dueLast(NODES + "lemma l : exists x, Q(x). give " + term(79 + over) + ".", fault);
            dueLast(NODES + "axiom a : forall x, Q(x). lemma l : P. use a " + term(79 + over) + " h.", fault);
            // Three terms of 26 are 78 nodes, T and one f with them 80.
            dueLast(NODES + "lemma l : exists x, T(x, " + deeper + ", f(x)). give " + term(26) + ".", fault);
            dueLast(NODES + "axiom a : forall x, T(x, " + deeper + ", f(x)). lemma l : P. use a " + term(26) + " h.", fault);
            dueLast(NODES + "axiom a : forall x, P -> T(x, " + deeper + ", f(x)) -> P -> Q(x). lemma l : Q(" + term(26) + "). apply a.", fault);
            dueLast(NODES + "axiom e : c = " + term(26) + ". lemma l : T(c, " + deeper.replace("x", "c") + ", f(c)). rewrite e.", fault);
        }
        dueLast(NODES + "lemma l : Q(c). have e : c = " + term(78) + ".", 0);
        dueLast(NODES + "lemma l : Q(c). have e : c = " + term(79) + ".", 9);
        dueLast(NODES + "lemma l : exists x, P. give " + term(120) + ".", 0);
        dueLast(NODES + "axiom a : forall x, P. lemma l : P. use a " + term(120) + " h.", 0);
        Client.dueGoals(NODES + "lemma l : exists x, Q(x). give " + term(80) + ".", goalsOf("l", "|- exists x, Q(x)"));
    }

    /** "A sentence that has a FAULT changes nothing" */
    private static void nothingIsChanged() {
        String text = "predicate P 0. function c 0. axiom p : P. lemma l : P -> P * P. intro h. ";
        String goals = goalsOf("l", "h : P, |- P * P");
        for (String wrong : new String[] {"x.", "axiom q : P.", "exact k.", "intro h.", "qed.", "left.", "exact p.", "same.", "absurd p.", "rewrite p.", "cases p a b.", "use p c k.",
            "have h : P.", "have k : X.", "give c.", "apply p.", "intro k."}) {
            Client.dueGoals(text + wrong, goals);
        }
        Client client = new Client();
        client.batch(text + "x. qed. left. split. exact h. exact h. qed. exact p.");
        Client.due("faults", client.verdicts(2), "0 0 0 0 0 3 7 8 0 0 0 0 4");
        Client.due("goals", client.verdicts(4), "-1 -1 -1 1 1 1 1 1 2 1 0 -1 -1");
        Client.due("facts", client.verdicts(5), "0 0 1 1 1 1 1 1 1 1 1 2 2");
    }

    /** "the faults, by number and MESSAGE, in this order" */
    private static void orderOfFaults() {
        String symbols = "predicate P 0. function c 0. axiom p : P. axiom q : forall x, P. ";
        String four = "0 0 0 0 ";
        Client.dueFaults("x!", "1");
        Client.dueFaults("exact. intro h.", "3 4");
        Client.dueFaults(symbols + "exact nothing. cases P P P. have P : X.", four + "4 4 4");
        Client.dueFaults(symbols + "lemma l : P. axiom P : X. function P 0. lemma P : X. predicate R 9.", four + "0 4 4 4 3");
        String big = Client.repeat("P -> ", 60);
        Client.dueFaults(symbols + "axiom P : " + big + "P. axiom a : " + big + "X. axiom a : " + big + "P.", four + "6 5 9");
        Client.dueFaults(symbols + "lemma l : P. intro P. intro p. exact X. apply X. give X. use X c h. use q X h. use q c P. have P : P. have h : X. rewrite X. absurd X. cases p a b.",
                four + "0 6 6 5 5 5 5 5 6 6 5 5 5 5");
        Client.dueFaults(symbols + "lemma l : P. have P : " + big + "P. have h : " + big + "X. have h : " + big + "P.", four + "0 6 5 9");
        String full = "lemma l : " + Client.repeat("P -> ", 8) + "P. " + EIGHT;
        String nine = "0 0 0 0 0 0 0 0 0 ";
        Client.dueFaults(symbols + full + "intro k. intro P. use p c k. use q c P. use q c k. cases a k m.", four + nine + "8 6 8 6 9 8");
        Client.dueFaults(symbols + "function f 1. lemma l : P. give " + Client.repeat("f(", 12) + "c" + Client.repeat(")", 12) + ". use p c h.", four + "0 0 8 8");
        Client.dueFaults(axioms(16) + "axiom a0 : P. axiom P : P. axiom b : X. axiom b : P.", "0 0 0 0 0 0 0 0 0 0 0 0 0 0 0 0 0 6 6 5 9");
        Client.dueFaults(declared(8, 8) + "function f0 0. predicate x 4. predicate x 3.", "0 0 0 0 0 0 0 0 0 0 0 0 0 0 0 0 6 3 9");
        Client.dueFaults("predicate P 0. lemma l : P * P. " + Client.repeat("have h : P. ", 5) + "split. left. apply h. qed.", "0 0 0 0 0 0 0 8 8 5 7");
    }

    /** "then, as its names come from the left: 5 unknown ..., 6 taken" */
    private static void fromTheLeft() {
        String begin = "predicate P 0. predicate Q 1. function c 0. axiom p : P. lemma l : P -> P. intro h. ";
        String six = "0 0 0 0 0 0 ";
        Client.dueFaults(begin + "cases X h h. cases h h X. cases h X h. cases h X X. cases p h h.", six + "5 6 6 6 5");
        Client.dueFaults(begin + "use X c h. use p X h. use p c h. use p c k. use p Q h. use p P h.", six + "5 5 6 8 5 5");
        Client.dueFaults(begin + "have h : X. have k : X. have k : Q(X). have k : X(c). have k : Q(c).", six + "6 5 5 5 0");
        Client.dueFaults("predicate P 0. axiom P : X. lemma P : X. axiom a : P -> X. lemma a : X -> P.", "0 6 6 5 5");
    }

    /** "the name that lemma tells is a new one, too; those that quantifiers bind are none; a lemma's own name is free in its proof" */
    private static void freeNames() {
        String begin = "predicate P 0. predicate Q 1. function c 0. axiom p : P. ";
        Client.dueFaults(begin + "lemma P : P. lemma c : P. lemma p : P. lemma l : forall P, forall c, exists p, Q(c) -> Q(p) -> Q(P).", "0 0 0 0 6 6 6 0");
        Client.dueFaults(begin + "lemma l : P -> forall x, P. intro l. intro x. exact l. qed. lemma l : P.", "0 0 0 0 0 0 0 0 0 6");
        Client.dueFaults(begin + "lemma l : P. abort. predicate l 0. lemma l : P. axiom x : l.", "0 0 0 0 0 0 0 6 0");
        Client.dueFaults(begin + "lemma l : forall x, P -> P. intro x. intro x. intro h. intro h. have x : P.", "0 0 0 0 0 0 6 0 6 6");
        // Only the first goal's names are taken, and what a hypothesis was is free when it has gone.
        Client.dueFaults(begin + "lemma l : P * P -> P. intro h. cases h a b. have h : P. have a : P.", "0 0 0 0 0 0 0 0 6");
        Client.dueFaults(begin + "lemma l : P. have h : P -> P. intro a. exact a. exact a. have a : P.", "0 0 0 0 0 0 0 0 5 0");
        Client.dueFaults(begin + "lemma l : P. have h : P -> P. intro h. exact h. intro h. have h : P.", "0 0 0 0 0 0 0 0 6 6");
        Client.dueFaults(begin + "lemma l : P * forall x, P. split. have x : P. exact p. exact x. exact x. intro x.", "0 0 0 0 0 0 0 0 0 5 0");
    }

    /** "the name that a quantifier around it binds (the innermost one), else a variable of the first goal, else a function", "A term alone is a predicate" */
    private static void whatANameIs() {
        String begin = "predicate Q 1. predicate R 2. function c 0. lemma l : forall x, exists y, Q(y). intro x. ";
        Client.dueGoals(begin + "have h : forall x, Q(x).", goalsOf("l", "x |- forall x, Q(x)", "x h : forall x, Q(x), |- exists y, Q(y)"));
        Client.dueGoals(begin + "have h : Q(x) * forall x, R(x, x).", goalsOf("l", "x |- Q(x) * forall x, R(x, x)", "x h : Q(x) * forall x, R(x, x), |- exists y, Q(y)"));
        Client.dueGoals(begin + "have h : forall c, R(x, c).", goalsOf("l", "x |- forall c, R(x, c)", "x h : forall c, R(x, c), |- exists y, Q(y)"));
        Client.dueGoals(begin + "have h : (forall x, forall y, R(x, y)) -> forall y, R(x, y). intro k. exact k.", goalsOf("l",
                "x k : forall x, forall y, R(x, y), |- forall y, R(x, y)", "x h : (forall x, forall y, R(x, y)) -> forall y, R(x, y), |- exists y, Q(y)"));
        Client.dueFaults(begin + "have h : forall x, exists x, Q(x). intro u. give x. have k : Q(u). have m : Q(y).", "0 0 0 0 0 0 0 0 0 5");
        String words = "predicate P 0. predicate Q 1. function c 0. ";
        Client.dueFaults(words + "axiom a : forall P, P. axiom b : forall P, Q(P). axiom d : Q(P). axiom e : forall Q, Q(Q). axiom g : forall x, x. axiom h : c. axiom i : P = P.",
                "0 0 0 0 0 5 0 5 5 5");
        Client.dueFaults(words + "axiom a : c(c) = c. axiom b : Q. axiom d : P(c). axiom e : Q(c, c). axiom g : Q(d). axiom h : Q(h). axiom i : (forall x, P) * Q(x).",
                "0 0 0 5 5 5 5 5 5 5");
    }

    /** "without one its variables and hypotheses are none, and it is 8" */
    private static void withoutGoals() {
        String begin = "predicate P 0. predicate Q 1. function c 0. axiom p : P. lemma l : forall x, P -> P. intro x. intro h. exact h. ";
        String eight = "0 0 0 0 0 0 0 0 ";
        Client.dueFaults(begin + "intro x. intro h. intro p. exact p. exact h. apply p. apply h. split. left. right. same.", eight + "8 8 6 8 5 8 5 8 8 8 8");
        Client.dueFaults(begin + "cases h a b. cases p a b. absurd p. absurd h. give c. give x. rewrite p. rewrite h.", eight + "5 5 8 5 8 5 8 5");
        Client.dueFaults(begin + "use p c h. use p x h. use p c p. use h c k. have h : P. have h : Q(x). have c : P. have k : Q(c). qed.", eight + "8 5 6 5 8 5 6 8 0");
    }

    /** "7 open goals (qed, when there are some)" */
    private static void openGoals() {
        String begin = "predicate P 0. axiom p : P. lemma l : P * P. ";
        Client.dueFaults(begin + "qed. split. qed. exact p. qed. exact p. qed. qed.", "0 0 0 7 0 7 0 7 0 0 4");
        Client.dueFaults(begin + "abort. abort. lemma l : P. split. abort. qed.", "0 0 0 0 4 0 8 0 4");
    }

    /** "A1 -> .. -> An -> C (the least n of 0 and more for which it goes)" */
    private static void leastPremises() {
        String begin = "predicate P 0. predicate Q 0. predicate R 1. function c 0. axiom a : P -> P -> P. axiom b : P -> Q -> P -> Q -> P. axiom r : forall x, R(x) -> P -> R(x). ";
        Client.dueGoals(begin + "lemma l : P. apply a.", goalsOf("l", "|- P", "|- P"));
        Client.dueGoals(begin + "lemma l : P -> P. apply a.", goalsOf("l", "|- P"));
        Client.dueGoals(begin + "lemma l : P -> P -> P. apply a.", goalsOf("l"));
        Client.dueFaults(begin + "lemma l : P -> P -> P -> P. apply a.", "0 0 0 0 0 0 0 0 8");
        Client.dueGoals(begin + "lemma l : Q -> P. apply b.", goalsOf("l", "|- P", "|- Q", "|- P"));
        Client.dueGoals(begin + "lemma l : P -> Q -> P. apply b.", goalsOf("l", "|- P", "|- Q"));
        Client.dueGoals(begin + "lemma l : P. apply b.", goalsOf("l", "|- P", "|- Q", "|- P", "|- Q"));
        Client.dueFaults(begin + "lemma l : Q. apply b.", "0 0 0 0 0 0 0 0 8");
        Client.dueGoals(begin + "lemma l : R(c). apply r.", goalsOf("l", "|- R(c)", "|- P"));
        Client.dueGoals(begin + "lemma l : P -> R(c). apply r.", goalsOf("l", "|- R(c)"));
        Client.dueGoals(begin + "lemma l : R(c) -> P -> R(c). apply r.", goalsOf("l"));
        Client.dueGoals(begin + "axiom z : P -> False. lemma l : False. apply z.", goalsOf("l", "|- P"));
    }

    /** "C, with terms for these names, is G, which tells each of these terms (a term without bound names)" */
    private static void tellsEachTerm() {
        String begin = "predicate P 0. predicate R 2. function c 0. function f 1. ";
        dueLast(begin + "axiom a : forall x, P. lemma l : P. apply a.", 8);
        dueLast(begin + "axiom a : forall x, forall y, R(x, x) -> R(y, y). lemma l : R(c, c). apply a.", 8);
        dueLast(begin + "axiom a : forall x, forall y, R(x, y). lemma l : R(c, f(c)). apply a.", 0);
        dueLast(begin + "axiom a : forall x, R(x, x). lemma l : R(f(c), f(c)). apply a.", 0);
        dueLast(begin + "axiom a : forall x, R(x, x). lemma l : R(f(c), f(f(c))). apply a.", 8);
        dueLast(begin + "axiom a : forall x, exists y, R(x, y). lemma l : exists y, R(c, y). apply a.", 0);
        dueLast(begin + "axiom a : forall x, exists y, R(x, y). lemma l : exists y, R(y, y). apply a.", 8);
        dueLast(begin + "axiom a : forall x, exists y, R(x, y). lemma l : exists y, R(f(y), y). apply a.", 8);
        dueLast(begin + "axiom a : forall x, exists y, R(x, y). lemma l : forall x, R(x, c). apply a.", 8);
        dueLast(begin + "axiom a : forall x, R(x, c). lemma l : forall x, R(x, c). apply a.", 8);
        dueLast(begin + "axiom a : forall x, forall x, R(x, x). lemma l : R(c, c). apply a.", 8);
        dueLast(begin + "axiom a : exists x, R(x, c). lemma l : R(c, c). apply a.", 8);
        dueLast(begin + "axiom a : forall x, R(x, c) -> forall y, R(x, y). lemma l : R(c, f(c)). apply a.", 8);
        dueLast(begin + "axiom a : forall x, R(x, c) -> forall y, R(x, y). lemma l : forall z, R(f(c), z). apply a.", 0);
    }

    /** "(a and b are both looked at for 6, also when one is not used; they must not be the same: 6.)" */
    private static void casesNames() {
        String begin = "predicate P 0. predicate Q 1. lemma l : P * P -> P + P -> (exists x, Q(x)) -> P -> P. intro d. intro e. intro g. intro h. ";
        String seven = "0 0 0 0 0 0 0 ";
        for (String which : new String[] {"d", "e", "g"}) {
            for (String wrong : new String[] {"a a", "P a", "a P", "h a", "a h", "a " + which, which + " a"}) {
                Client.dueFaults(begin + "cases " + which + " " + wrong + ".", seven + "6");
            }
            Client.dueFaults(begin + "cases " + which + " a b.", seven + "0");
            Client.dueFaults(begin + "cases " + which + " l b.", seven + "0");
        }
        Client.dueFaults(begin + "cases h a b. cases h a a. cases l a b.", seven + "8 6 5");
        Client.dueGoals(begin + "cases d a b.", goalsOf("l", "e : P + P, g : exists x, Q(x), h : P, a : P, b : P, |- P"));
        Client.dueGoals(begin + "cases e a b.", goalsOf("l", "d : P * P, g : exists x, Q(x), h : P, a : P, |- P", "d : P * P, g : exists x, Q(x), h : P, b : P, |- P"));
        Client.dueGoals(begin + "cases g a b.", goalsOf("l", "a d : P * P, e : P + P, h : P, b : Q(a), |- P"));
    }

    /** "all t in G (also behind quantifiers; t as a whole, from the outside in, not again in what came) become u: there must be one" */
    private static void rewriting() {
        String begin = "predicate P 0. predicate R 2. function c 0. function d 0. function f 1. ";
        dueLast(begin + "axiom e : c = d. lemma l : P. rewrite e.", 8);
        dueLast(begin + "axiom e : c = d. lemma l : R(d, d). rewrite e.", 8);
        dueLast(begin + "axiom e : f(c) = d. lemma l : R(c, f(d)). rewrite e.", 8);
        dueLast(begin + "axiom e : forall x, f(x) = d. lemma l : R(c, f(d)). rewrite e.", 8);
        dueLast(begin + "axiom e : R(c, c). lemma l : R(c, c). rewrite e.", 8);
        Client.dueGoals(begin + "axiom e : c = c. lemma l : R(c, d). rewrite e.", goalsOf("l", "|- R(c, d)"));
        Client.dueGoals(begin + "axiom e : c = d. lemma l : R(c, d) -> forall x, exists y, R(f(c), x) * c = y. rewrite e.", goalsOf("l", "|- R(d, d) -> forall x, exists y, R(f(d), x) * d = y"));
        Client.dueGoals(begin + "axiom e : f(f(c)) = f(c). lemma l : R(f(f(f(c))), f(f(f(f(c))))). rewrite e.", goalsOf("l", "|- R(f(f(c)), f(f(f(c))))"));
        Client.dueGoals(begin + "axiom e : c = f(c). lemma l : R(c, f(c)). rewrite e.", goalsOf("l", "|- R(f(c), f(f(c)))"));
        Client.dueGoals(begin + "lemma l : forall x, x = c -> R(x, c) -> forall x, R(x, c). intro y. intro e. rewrite e.",
                goalsOf("l", "y e : y = c, |- R(c, c) -> forall x, R(x, c)"));
        dueLast(begin + "lemma l : forall x, x = c -> forall x, R(x, c). intro x. intro e. rewrite e.", 8);
    }

    /** "Formulas are the same up to the names that they bind." */
    private static void upToBoundNames() {
        String begin = "predicate R 2. function c 0. ";
        dueLast(begin + "axiom a : forall x, exists y, R(x, y). lemma l : forall c, exists R, R(c, R). exact a.", 0);
        dueLast(begin + "axiom a : forall x, exists y, R(x, y). lemma l : forall y, exists x, R(x, y). exact a.", 8);
        dueLast(begin + "axiom a : forall x, exists y, R(x, y). lemma l : exists x, forall y, R(x, y). exact a.", 8);
        dueLast(begin + "axiom a : forall x, R(x, c). lemma l : forall c, R(c, c). exact a.", 8);
        dueLast(begin + "axiom a : (forall x, R(x, x)) * forall y, R(y, y). lemma l : (forall y, R(y, y)) * forall x, R(x, x). exact a.", 0);
    }

    /** "A bound name is written with as many ' behind it as it takes that no symbol, variable or outer bound name (as that is written) that stands in its formula has that name." */
    private static void primes() {
        String begin = "predicate Q 1. predicate R 2. predicate T 3. function c 0. function c' 0. ";
        Client.dueGoals(begin + "lemma l : forall c, Q(c).", goalsOf("l", "|- forall c, Q(c)"));
        Client.dueGoals(begin + "lemma l : forall Q, Q(Q).", goalsOf("l", "|- forall Q', Q(Q')"));
        Client.dueGoals(begin + "lemma l : forall Q, R(Q, c).", goalsOf("l", "|- forall Q, R(Q, c)"));
        String one = begin + "lemma l : exists x, forall c, R(x, c). ";
        Client.dueGoals(one + "give c.", goalsOf("l", "|- forall c', R(c, c')"));
        String two = begin + "lemma l : exists x, exists y, forall c, T(x, y, c). ";
        Client.dueGoals(two + "give c. give c'.", goalsOf("l", "|- forall c'', T(c, c', c'')"));
        Client.dueGoals(two + "give c'. give c'.", goalsOf("l", "|- forall c, T(c', c', c)"));
        String outer = begin + "lemma l : forall x, exists z, forall y, forall x, T(z, y, x). intro x. give x. ";
        Client.dueGoals(outer, goalsOf("l", "x |- forall y, forall x', T(x, y, x')"));
        String chain = begin + "lemma l : forall y, exists x, forall y, forall y', T(x, y, y'). intro y. give y. ";
        Client.dueGoals(chain, goalsOf("l", "y |- forall y', forall y'', T(y, y', y'')"));
        Client.dueGoals(begin + "lemma l : forall y, exists x, forall y, Q(y) * forall y, R(x, y). intro y. give y. ",
                goalsOf("l", "y |- forall y', Q(y') * forall y', R(y, y')"));
        Client.dueGoals(begin + "lemma l : forall x, exists z, (forall x, R(z, x)) * (forall y, Q(y)) * forall x, R(x, z). intro x. give x.",
                goalsOf("l", "x |- (forall x', R(x, x')) * (forall y, Q(y)) * forall x', R(x', x)"));
        Client.dueGoals(begin + "lemma l : forall x, exists z, (forall x, R(z, x)) -> forall y, Q(y). intro x. give x. intro h.",
                goalsOf("l", "x h : forall x', R(x, x'), |- forall y, Q(y)"));
        Client.dueGoals(begin + "lemma l : forall x, Q(x) * forall x, Q(x). ", goalsOf("l", "|- forall x, Q(x) * forall x, Q(x)"));
    }

    /** "in ( ) where it must be" and "quantifiers in ( ) everywhere but at the right end of all or of what ( ) hold" */
    private static void parentheses() {
        String[] signs = {"->", "+", "*"};
        // Whether the left and the right side of a sign (the row) are held in ( ) when they are joined by another one.
        boolean[][] left = {{true, false, false}, {true, true, false}, {true, true, true}};
        boolean[][] right = {{false, false, false}, {true, false, false}, {true, true, false}};
        for (int outer = 0; outer < 3; outer++) {
            for (int inner = 0; inner < 3; inner++) {
                String joined = "A " + signs[inner] + " B";
                String first = left[outer][inner] ? "(" + joined + ")" : joined;
                String second = right[outer][inner] ? "(" + joined + ")" : joined;
                dueWritten("(" + joined + ") " + signs[outer] + " C", first + " " + signs[outer] + " C");
                dueWritten("C " + signs[outer] + " (" + joined + ")", "C " + signs[outer] + " " + second);
            }
            dueWritten("(forall x, A) " + signs[outer] + " B", "(forall x, A) " + signs[outer] + " B");
            dueWritten("A " + signs[outer] + " (exists x, B)", "A " + signs[outer] + " exists x, B");
            dueWritten("(A " + signs[outer] + " (exists x, B)) -> C", outer == 0 ? "(A -> exists x, B) -> C" : "A " + signs[outer] + " (exists x, B) -> C");
            dueWritten("forall x, A " + signs[outer] + " (forall y, B)", "forall x, A " + signs[outer] + " forall y, B");
        }
        dueWritten("~ ~ A", "(A -> False) -> False");
        dueWritten("~ forall x, A", "(forall x, A) -> False");
    }

    private static void dueWritten(String formula, String written) {
        String begin = "predicate A 0. predicate B 0. predicate C 0. ";
        Client.dueGoals(begin + "lemma l : " + formula + ".", goalsOf("l", "|- " + written));
        Client client = Client.checked(begin + "axiom a : " + formula + ".").askStatement("1", "a", "a");
        client.dueAnswers("statement " + formula, Client.result("1", "\"" + written + "\""));
    }

    /** "null without a proof, else ..."; "Of proof/statement: a string, the formula of the fact, printed; of a symbol its number as an int." */
    private static void answers() {
        String begin = "predicate P 0. function f 3. axiom p : P. ";
        Client.dueGoals(begin, "null");
        Client.dueGoals(begin + "lemma l : P.", goalsOf("l", "|- P"));
        Client.dueGoals(begin + "lemma l : P. exact p.", goalsOf("l"));
        Client.dueGoals(begin + "lemma l : P. exact p. qed.", "null");
        Client.dueGoals(begin + "lemma l : P. abort.", "null");
        Client client = Client.checked(begin + "lemma l : P. exact p. qed. lemma m : P -> P. intro h.");
        String[][] want = {{"P", "0"}, {"f", "3"}, {"p", "\"P\""}, {"l", "\"P\""}, {"m", "null"}, {"h", "null"}, {"q", "null"}, {"", "null"}, {"P ", "null"}, {"forall", "null"},
            {"abcdefghijk", "null"}, {"\u00e9", "null"}, {"'", "null"}, {"1", "null"}};
        for (String[] one : want) {
            client.askStatement("1", "a", one[0]);
            client.dueAnswers("statement " + one[0], Client.result("1", one[1]));
        }
    }
}
