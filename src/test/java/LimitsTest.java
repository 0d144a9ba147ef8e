/** Term 4: what is too large (fault 9). */
public final class LimitsTest {
    public static void main(String[] args) {
        symbols();
        facts();
        nodes();
        goals();
        variablesAndHypotheses();
        grown();
        Client.end();
    }

    private static void dueLast(String text, int fault) {
        Client client = new Client();
        int count = client.batch(text);
        Client.due("fault of the last of " + text, client.server.verdict(count - 1, 2), fault);
        for (int k = 0; k < count - 1; k++) {
            Client.due("fault " + k + " of " + text, client.server.verdict(k, 2), 0);
        }
    }

    private static String declared(int count) {
        StringBuilder row = new StringBuilder();
        for (int i = 0; i < count; i++) {
            row.append(i % 2 == 0 ? "predicate P" : "function f").append(i).append(" 0. ");
        }
        return row.toString();
    }

    private static void symbols() {
        dueLast(declared(16), 0);
        dueLast(declared(17), 9);
        dueLast(declared(16) + "function P0 1.", 6);
        dueLast(declared(16) + "axiom a : P0.", 0);
    }

    private static String axioms(int count) {
        StringBuilder row = new StringBuilder("predicate P 0. ");
        for (int i = 0; i < count; i++) {
            row.append("axiom a").append(i).append(" : P. ");
        }
        return row.toString();
    }

    private static void facts() {
        dueLast(axioms(16), 0);
        dueLast(axioms(17), 9);
        dueLast(axioms(16) + "axiom a0 : P.", 6);
        dueLast(axioms(16) + "axiom b : X.", 5);
        dueLast(axioms(16) + "lemma l : P. exact a0. ", 0);
        dueLast(axioms(16) + "lemma l : P. exact a0. qed.", 9);
        dueLast(axioms(16) + "lemma l : P. qed.", 7);
        dueLast(axioms(15) + "lemma l : P. exact a0. qed.", 0);
        Client client = new Client();
        client.batch(axioms(16) + "lemma l : P. exact a0. qed. abort.");
        Client.due("facts", client.server.verdict(20, 5), 16);
        Client.due("a proof without goals", client.server.verdict(19, 4), 0);
        Client.due("no proof", client.server.verdict(20, 4), -1);
    }

    private static void nodes() {
        String symbols = "predicate P 0. predicate Q 1. function f 1. function c 0. ";
        // n arrows have 2 n + 1 nodes.
        String arrows = Client.repeat("P -> ", 39) + "P";
        dueLast(symbols + "axiom a : " + arrows + ".", 0);
        dueLast(symbols + "axiom a : forall x, " + arrows + ".", 0);
        dueLast(symbols + "axiom a : forall x, exists y, " + arrows + ".", 9);
        dueLast(symbols + "axiom a : False + " + arrows + ".", 9);
        dueLast(symbols + "axiom a : " + Client.repeat("P -> ", 38) + "~P.", 0);
        dueLast(symbols + "axiom a : " + Client.repeat("P -> ", 38) + "~~P.", 9);
        dueLast(symbols + "axiom a : " + Client.repeat("P * ", 38) + "Q(c).", 0);
        dueLast(symbols + "axiom a : " + Client.repeat("P * ", 38) + "c = c.", 0);
        dueLast(symbols + "axiom a : " + Client.repeat("P * ", 38) + "f(c) = f(c).", 9);
        dueLast(symbols + "axiom a : " + Client.repeat("P * ", 38) + "f(c) = c.", 0);
        dueLast(symbols + "lemma l : P -> " + arrows + ".", 9);
        dueLast(symbols + "lemma l : " + arrows + ". have k : P -> " + arrows + ".", 9);
    }

    private static void goals() {
        String symbols = "predicate P 0. axiom a : P -> P -> P. axiom b : P -> P -> P -> P -> P -> P -> P. axiom d : P -> P -> P -> P -> P -> P -> P -> P. ";
        dueLast(symbols + "lemma l : P. " + Client.repeat("have h : P. ", 5), 0);
        dueLast(symbols + "lemma l : P. " + Client.repeat("have h : P. ", 6), 9);
        dueLast(symbols + "lemma l : P. apply b.", 0);
        dueLast(symbols + "lemma l : P. apply d.", 9);
        dueLast(symbols + "lemma l : P. apply a. apply b.", 9);
        dueLast(symbols + "lemma l : P * P * P * P * P * P * P. " + "split. have h : P. ", 0);
        dueLast(symbols + "lemma l : (P * P) * P. apply a.", 8);
        dueLast(symbols + "lemma l : P -> P + P -> P. intro h. intro k. " + Client.repeat("have m : P. ", 5) + "cases k u v.", 9);
        dueLast(symbols + "lemma l : (P + P) * P. split. left. " + Client.repeat("have h : P. ", 4) + "apply a.", 9);
        dueLast(symbols + "lemma l : P * P. have h : P * P. have m : P * P. have n : P * P. have o : P * P. have p : P * P. split.", 9);
    }

    private static void variablesAndHypotheses() {
        String symbols = "predicate P 0. predicate Q 1. ";
        dueLast(symbols + "lemma l : " + Client.repeat("forall x, ", 7) + "P. intro a. intro b. intro c. intro d. intro e. intro f.", 0);
        dueLast(symbols + "lemma l : " + Client.repeat("forall x, ", 7) + "P. intro a. intro b. intro c. intro d. intro e. intro f. intro g.", 9);
        dueLast(symbols + "lemma l : (exists x, P) -> " + Client.repeat("forall x, ", 6)
                + "P. intro h. intro a. intro b. intro c. intro d. intro e. intro f. cases h u v.", 9);
        String eight = "intro a. intro b. intro c. intro d. intro e. intro f. intro g. intro h. ";
        dueLast(symbols + "lemma l : " + Client.repeat("P -> ", 9) + "P. " + eight, 0);
        dueLast(symbols + "lemma l : " + Client.repeat("P -> ", 9) + "P. " + eight + "intro i.", 9);
        dueLast(symbols + "lemma l : P * P -> " + Client.repeat("P -> ", 9) + "P. " + eight + "cases a u v.", 9);
        dueLast(symbols + "lemma l : P + P -> " + Client.repeat("P -> ", 9) + "P. " + eight + "cases a u v.", 0);
        dueLast(symbols + "lemma l : (exists x, P) -> " + Client.repeat("P -> ", 9) + "P. " + eight + "cases a u v.", 0);
        dueLast(symbols + "lemma l : P -> " + Client.repeat("P -> ", 9) + "P. " + eight + "have k : P.", 9);
        dueLast("function z 0. " + symbols + "axiom ax : forall x, P. lemma l : P -> " + Client.repeat("P -> ", 9) + "P. " + eight + "use ax z k.", 9);
        dueLast(symbols + "lemma l : " + Client.repeat("P -> ", 9) + "P * P. " + eight + "split.", 8);
    }

    private static void grown() {
        String symbols = "predicate P 0. predicate R 2. function c 0. function f 1. ";
        String deep = Client.repeat("f(", 10) + "c" + Client.repeat(")", 10);
        // Each R with two terms of 11 nodes has 23: three of them fit, with the two * between, four do not.
        for (int count = 3; count <= 4; count++) {
            String body = Client.repeat("R(x, x) * ", count - 1) + "R(x, x)";
            String instance = body.replace("x", "c");
            int fault = count == 3 ? 0 : 9;
            dueLast(symbols + "lemma l : exists x, " + body + ". give " + deep + ".", fault);
            dueLast(symbols + "axiom a : forall x, " + body + ". lemma l : P. use a " + deep + " h.", fault);
            dueLast(symbols + "axiom a : c = " + deep + ". lemma l : " + instance + ". rewrite a.", fault);
            dueLast(symbols + "axiom a : forall x, " + body + " -> R(x, c). lemma l : R(" + deep + ", c). apply a.", fault);
        }
        dueLast(symbols + "lemma l : exists x, P. give " + Client.repeat("f(", 12) + "c" + Client.repeat(")", 12) + ".", 0);
        dueLast(symbols + "function g 3. lemma l : exists x, P. give " + big(4) + ".", 0);
        dueLast(symbols + "function g 3. lemma l : exists x, x = x. give " + big(4) + ".", 9);
    }

    /** A term of a function of three terms, as deep as told. */
    private static String big(int depth) {
        return depth == 0 ? "c" : "g(" + big(depth - 1) + "," + big(depth - 1) + "," + big(depth - 1) + ")";
    }
}
