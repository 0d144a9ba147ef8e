/** The boundary cases of the document's term 4, SENTENCES, up to what a sentence is: places, comments, tokens, terms, formulas. */
public final class SentenceEdgesTest {
    private static final String SYMBOLS = "predicate P 0. predicate Q 1. predicate T 3. function c 0. function f 1. function g 3. ";
    private static final String SIX = "0 0 0 0 0 0 ";

    public static void main(String[] args) {
        comments();
        blanks();
        ends();
        unfinished();
        commentsWithoutEnd();
        fortySentences();
        moreBehindTheLast();
        behindTheLast();
        names();
        longNames();
        numbers();
        signs();
        noTokens();
        reservedNames();
        wordsAreNames();
        numbersOfTerms();
        terms();
        chains();
        nesting();
        nestingInTactics();
        Client.end();
    }

    /** Places and faults of the sentences of a text, as a batch and as a document. */
    private static void dueParts(String text, String starts, String ends, String faults) {
        Client client = new Client();
        int count = client.batch(text);
        Client.due("starts of " + text, client.verdicts(0), starts);
        Client.due("ends of " + text, client.verdicts(1), ends);
        Client.due("faults of " + text, client.verdicts(2), faults);
        Client.due("none behind the last of " + text, client.server.verdict(count, 0), -1);
        Client other = Client.checked(text);
        Client.due("sentences of " + text, other.server.document(0, 2), count);
        Client.due("starts of the document " + text, other.sentences(0, 0), starts);
        Client.due("ends of the document " + text, other.sentences(0, 1), ends);
        Client.due("faults of the document " + text, other.sentences(0, 3), faults);
        Client.due("none behind the last of the document " + text, other.server.sentence(0, count, 0), -1);
    }

    /** "A COMMENT goes from (* to its *), comments in it likewise." */
    private static void comments() {
        dueParts("(**)", "", "", "");
        dueParts("(**)a.", "4", "6", "3");
        dueParts("(***)a.", "5", "7", "3");
        dueParts("(*)a.*)b.", "7", "9", "3");
        dueParts("(*(**)*)a.", "8", "10", "3");
        dueParts("(*(**)a.*)b.", "10", "12", "3");
        dueParts("(*(*(**)a.*)b.*)c.", "16", "18", "3");
        dueParts("(*(*)a.*)b.*)c.", "13", "15", "3");
        dueParts("(*(*)*)", "0", "7", "1");
        dueParts("(*(*)*)*)a.", "9", "11", "3");
        dueParts("(**)*)a.", "4", "8", "3");
        dueParts("(* ( * ) a. *)b.", "14", "16", "3");
        dueParts("( * a. *)", "0 7", "6 9", "3 1");
        dueParts("(**)(**)a.(**)(**)", "8", "10", "3");
        dueParts(Client.repeat("(*", 300) + "a." + Client.repeat("*)", 300) + "b.", "1202", "1204", "3");
        dueParts("a(*.*).", "0", "7", "3");
        dueParts("a(*. *)b.", "0", "9", "3");
    }

    /** "Outside of comments blanks are 32, 9, 10, 13." */
    private static void blanks() {
        dueParts("", "", "", "");
        dueParts(" \t\n\r", "", "", "");
        dueParts(" \t\n\ra.", "4", "6", "3");
        for (String other : new String[] {"\f", "\u000b", "\b", "\u00a0", "\u2028", "\u0085", "\u0000", "\u001f", "!"}) {
            dueParts(" " + other + " ", "1", "3", "1");
            dueParts("a." + other + "b.", "0", "5", "3");
        }
    }

    /** "ends behind the first . outside of comments that has a blank, a (* or the text's end behind it" */
    private static void ends() {
        for (String blank : new String[] {" ", "\t", "\n", "\r"}) {
            dueParts("a." + blank, "0", "2", "3");
            dueParts("a." + blank + "b.", "0 3", "2 5", "3 3");
        }
        dueParts("a.", "0", "2", "3");
        dueParts("a.(**)b.", "0 6", "2 8", "3 3");
        dueParts("a.(b.", "0", "5", "3");
        dueParts("a.*b.", "0", "5", "3");
        dueParts("a.)b.", "0", "5", "3");
        dueParts("a.(", "0", "3", "1");
        dueParts("a.b", "0", "3", "1");
        dueParts("a...", "0", "4", "3");
        dueParts("a. . .", "0 3 5", "2 4 6", "3 3 3");
        dueParts("a .", "0", "3", "3");
        dueParts(".", "0", "1", "3");
        dueParts(".. .", "0 3", "2 4", "3 3");
    }

    /** "when there is none, at the text's end: it is UNFINISHED" */
    private static void unfinished() {
        dueParts("a", "0", "1", "1");
        dueParts(" a \n", "1", "4", "1");
        dueParts("a. b", "0 3", "2 4", "3 1");
        dueParts("a (* . *)", "0", "9", "1");
        dueParts("a (* . *) ", "0", "10", "1");
        dueParts("qed", "0", "3", "1");
        dueParts("predicate P 0. axiom a : P", "0 15", "14 26", "0 1");
    }

    /** "so it is also when a comment has no end (a comment without end where no sentence has begun is a sentence of its own, from its ( on)" */
    private static void commentsWithoutEnd() {
        dueParts("(*", "0", "2", "1");
        dueParts(" (* a. b.", "1", "9", "1");
        dueParts("a. (* b. c.", "0 3", "2 11", "3 1");
        dueParts("a.(*", "0 2", "2 4", "3 1");
        dueParts("a (* b. c.", "0", "10", "1");
        dueParts("a (* (* *) b. c.", "0", "16", "1");
        dueParts("(* (* *)", "0", "8", "1");
        dueParts("(**)(*", "4", "6", "1");
        dueParts("(*)", "0", "3", "1");
        dueParts("(* *", "0", "4", "1");
        dueParts("(* *)", "", "", "");
        dueParts("a. (", "0 3", "2 4", "3 1");
    }

    /** "At most 40" */
    private static void fortySentences() {
        StringBuilder starts = new StringBuilder("0");
        StringBuilder ends = new StringBuilder("2");
        StringBuilder faults = new StringBuilder("3");
        for (int k = 1; k < 39; k++) {
            starts.append(' ').append(3 * k);
            ends.append(' ').append(3 * k + 2);
            faults.append(" 3");
        }
        String text = Client.repeat("a. ", 39);
        dueParts(text, starts.toString(), ends.toString(), faults.toString());
        String forty = text + "a.";
        String last = starts + " 117";
        dueParts(forty, last, ends + " 119", faults + " 3");
        dueParts(forty + " \t\r\n", last, ends + " 119", faults + " 3");
        dueParts(forty + "(* b. (* c. *) *) (**)\n", last, ends + " 119", faults + " 3");
        dueParts(text + "a", last, ends + " 118", faults + " 1");
        dueParts(text + "(* a.", last, ends + " 122", faults + " 1");
    }

    /** "if there is more behind the 40th than blanks and comments that have an end, it goes up to the text's end and is TOO MUCH" */
    private static void moreBehindTheLast() {
        String forty = Client.repeat("a. ", 40);
        for (String more : new String[] {"b.", "b. c. d.", "b", ".", "!", "(* b *) c.", "b. (* c *) ", "(* b. ", "(**)(*"}) {
            Client client = new Client();
            Client.due("sentences with " + more, client.batch(forty + more), 40);
            Client.due("start of the 40th with " + more, client.server.verdict(39, 0), 117);
            Client.due("end of the 40th with " + more, client.server.verdict(39, 1), 120 + more.length());
            Client.due("fault of the 40th with " + more, client.server.verdict(39, 2), 2);
            Client.due("cost of the 40th with " + more, client.server.verdict(39, 3), 4);
            Client.due("fault of the 39th with " + more, client.server.verdict(38, 2), 3);
            Client.due("no 41st with " + more, client.server.verdict(40, 0), -1);
            Client other = Client.checked(forty + more);
            Client.due("sentences of the document with " + more, other.server.document(0, 2), 40);
            Client.due("end of its 40th with " + more, other.server.sentence(0, 39, 1), 120 + more.length());
            Client.due("fault of its 40th with " + more, other.server.sentence(0, 39, 3), 2);
            Client.due("cost of its 40th with " + more, other.server.sentence(0, 39, 4), 4);
            Client.due("no 41st of it with " + more, other.server.sentence(0, 40, 2), -1);
        }
        // A sentence that would be fine is not taken when it is too much.
        Client client = new Client();
        client.batch(Client.repeat("a. ", 39) + "predicate P 0. b.");
        Client.due("fault", client.server.verdict(39, 2), 2);
        client.batch(Client.repeat("a. ", 39) + "predicate P 0.");
        Client.due("fault", client.server.verdict(39, 2), 0);
    }

    /** What comes of the 40th counts like what comes of any other one. */
    private static void behindTheLast() {
        String text = Client.repeat("x. ", 39) + "lemma l : False.";
        String goals = "{\"proof\":\"l\",\"goals\":[\"|- False\"]}";
        Client client = new Client();
        client.batch(text);
        Client.due("goals behind the 40th", client.goals(39), goals);
        Client.due("goals behind the 39th", client.goals(38), "null");
        Client.due("number of goals behind the 40th", client.server.verdict(39, 4), 1);
        client = Client.checked(text).askGoals("1", "a", 0, text.length()).askGoals("2", "a", 0, text.length() - 1);
        client.dueAnswers("goals of a document", Client.result("1", goals), Client.result("2", "null"));
        client = Client.checked(Client.repeat("x. ", 39) + "axiom l : False.").askStatement("1", "a", "l");
        client.dueAnswers("a statement of the 40th", Client.result("1", "\"False\""));
        client = new Client().initialized().open("a", 1, text + " x.");
        client.askGoals("1", "a", 0, text.length()).askGoals("2", "a", 0, text.length() + 3);
        client.dueAnswers("the 40th ends at the end of the text");
        client.server.work(10000);
        Client.due("what is too much changes nothing", client.answers().get(2), Client.result("2", "null"));
    }

    /** What a sentence costs is 3 and the number of its tokens. */
    private static void dueTokens(String sentence, int tokens) {
        Client client = new Client();
        client.batch(sentence);
        Client.due("cost of " + sentence, client.server.verdict(0, 3), 3 + tokens);
        Client.due("end of " + sentence, client.server.verdict(0, 1), sentence.length());
        client.initialized().open("a", 1, sentence);
        Client.due("cost in a document of " + sentence, client.server.sentence(0, 0, 4), 3 + tokens);
        Client.due("steps of " + sentence, client.server.work(10000), 3 + tokens);
    }

    /** "NAMES (a letter, then letters, digits, _ and ' as long as they go on" */
    private static void names() {
        dueTokens("azAZ.", 2);
        for (char sign : "azAZ".toCharArray()) {
            dueTokens(sign + ".", 2);
            dueTokens(sign + "_ " + sign + "9.", 3);
        }
        dueTokens("a09_'Z.", 2);
        dueTokens("a''.", 2);
        dueTokens("a'b.", 2);
        dueTokens("a b.", 3);
        dueTokens("a(**)b.", 3);
        dueTokens("_a.", 3);
        dueTokens("'a.", 3);
        dueTokens("9a.", 3);
        for (String other : new String[] {"@", "[", "`", "{", "\u00e9", "\u0430", "\u00aa", "$", "\""}) {
            dueTokens(other + ".", 2);
            dueTokens("a" + other + "b.", 4);
        }
        Client.dueFaults("predicate a09_'Z 0. axiom x : a09_'Z. axiom y : a09_'z.", "0 0 5");
        String signs = "abcdefghijklmnopqrstuvwxyzABCDEFGHIJKLMNOPQRSTUVWXYZ0123456789_'";
        for (int i = 0; i < signs.length(); i++) {
            for (String name : new String[] {"a" + signs.charAt(i), "a" + signs.charAt(i) + "b", "Z" + signs.charAt(i) + signs.charAt(i) + "'"}) {
                String other = name.replace(signs.charAt(i), signs.charAt((i + 1) % signs.length()));
                Client client = new Client();
                client.batch("predicate " + other + " 0. lemma " + name + " : False.");
                Client.due("names " + other + " " + name, client.goals(1), "{\"proof\":\"" + name + "\",\"goals\":[\"|- False\"]}");
            }
        }
    }

    /** "10 signs at most: a longer one is no token" */
    private static void longNames() {
        dueTokens("abcdefghij.", 2);
        dueTokens("abcdefghijk.", 12);
        dueTokens("a123456789.", 2);
        dueTokens("a1234567890.", 12);
        dueTokens("a'''''''''.", 2);
        dueTokens("a''''''''''.", 12);
        dueTokens(Client.repeat("a", 100) + ".", 101);
        dueTokens("abcdefghij abcdefghij.", 3);
        Client.dueFaults("predicate abcdefghij 0. axiom a : abcdefghij.", "0 0");
        Client.dueFaults("predicate abcdefghijk 0. axiom a : abcdefghij.", "3 5");
        Client.dueFaults("predicate abcdefghij 0. predicate abcdefghik 0. predicate abcdefghij 0.", "0 0 6");
    }

    /** "NUMBERS (one digit each)" */
    private static void numbers() {
        dueTokens("0.", 2);
        dueTokens("9.", 2);
        dueTokens("12.", 3);
        dueTokens("1234567890.", 11);
        dueTokens("1a2.", 3);
        dueTokens("\u0663.", 2);
        Client.dueFaults("predicate P 1. predicate Q 01. predicate R 10.", "0 3 3");
    }

    /** "SIGNS: -> * + ~ = : , ( ) and the . at its end" */
    private static void signs() {
        dueTokens("->.", 2);
        dueTokens("*+~=:,().", 9);
        dueTokens("->->.", 3);
        dueTokens("- >.", 3);
        dueTokens("-(**)>.", 3);
        dueTokens("--> .", 3);
        dueTokens("->>.", 3);
        dueTokens("=>.", 3);
        dueTokens("-.", 2);
        dueTokens("( *.", 3);
        dueTokens("*).", 3);
        dueTokens("(**).".replace("(**)", "a(**)"), 2);
        for (char sign : "->*+~=:,()".toCharArray()) {
            dueTokens("a" + sign + "b.", 4);
        }
    }

    /** "A unit that is in none of these is no token", "the units that are no token count 1 each" */
    private static void noTokens() {
        dueTokens("a.b.", 4);
        dueTokens("...", 3);
        dueTokens("!!.", 3);
        dueTokens("\ud83d\ude00.", 3);
        dueTokens("\u0000\f.", 3);
        dueTokens("&|<>/?;[]{}.", 12);
        Client.dueFaults("predicate P! 0. predicate P 0!. predicate P 0.", "3 3 0");
        Client.dueFaults("predicate P.a 0.", "3");
        Client.dueFaults("predicate P 0. axiom a : P > P. axiom a : P - P. axiom a : P n P. axiom a : P & P. axiom a : P -> P.", "0 3 3 3 3 0");
    }

    /** "no name may be one of forall, exists, False where a name is told" */
    private static void reservedNames() {
        for (String name : new String[] {"forall", "exists", "False"}) {
            Client.dueFaults("function " + name + " 0. predicate " + name + " 0. axiom " + name + " : False. lemma " + name + " : False.", "3 3 3 3");
            for (String tactic : new String[] {"intro N", "exact N", "apply N", "cases N a b", "cases h N b", "cases h a N", "absurd N", "give N", "give f(N)", "give N(c)",
                "use N c a", "use h N a", "use h c N", "rewrite N", "have N : P", "have a : forall N, P", "have a : exists N, P", "have a : Q(N)", "have a : N(c)", "have a : N = c",
                "have a : c = N"}) {
                Client.dueFaults(SYMBOLS + "lemma l : P -> P. " + tactic.replace("N", name) + ".", SIX + "0 3");
            }
        }
        Client.dueFaults("predicate P 0. axiom a : forall Forall, P. axiom b : exists false, P. predicate foralls 0. predicate exist 0.", "0 0 0 0 0");
    }

    /** "Words that are told here in small letters are names, too" */
    private static void wordsAreNames() {
        String[] words = {"function", "predicate", "axiom", "lemma", "qed", "abort", "intro", "exact", "apply", "split", "left", "right", "cases", "absurd", "give", "use", "same",
            "rewrite", "have"};
        for (String word : words) {
            Client.dueFaults("predicate " + word + " 0. axiom a : " + word + " -> " + word + ".", "0 0");
            Client.dueFaults("function " + word + " 0. axiom a : " + word + " = " + word + ".", "0 0");
            Client.dueFaults("axiom " + word + " : forall " + word + ", " + word + " = " + word + ".", "0");
            Client.dueFaults("lemma " + word + " : False -> False. intro " + word + ". exact " + word + ". qed.", "0 0 0 0");
        }
        Client.dueFaults("Function f 0. PREDICATE P 0. Qed. Lemma l : False.", "3 3 3 3");
    }

    /** "function name n. predicate name n. (n 0 to 3)" */
    private static void numbersOfTerms() {
        for (int n = 0; n <= 9; n++) {
            String fault = n <= 3 ? "0" : "3";
            Client.dueFaults("function f " + n + ".", fault);
            Client.dueFaults("predicate P " + n + ".", fault);
        }
        Client.dueFaults("function f. function f f. function f ->. function f 0 0. function 0.", "3 3 3 3 3");
        String ahead = "function c 0. function f 1. function g 2. function h 3. predicate Q 1. predicate R 2. predicate T 3. predicate P 0. ";
        String eight = "0 0 0 0 0 0 0 0 ";
        String[] rows = {"", "(c)", "(c, c)", "(c, c, c)", "(c, c, c, c)"};
        String[] functions = {"c", "f", "g", "h"};
        String[] predicates = {"P", "Q", "R", "T"};
        for (int n = 0; n < rows.length; n++) {
            for (int k = 0; k < functions.length; k++) {
                Client.dueFaults(ahead + "axiom a : " + functions[k] + rows[n] + " = c.", eight + (n == k ? "0" : "5"));
                Client.dueFaults(ahead + "axiom a : " + predicates[k] + rows[n] + ".", eight + (n == k ? "0" : "5"));
            }
        }
    }

    private static void dueAxiom(String formula, String fault) {
        Client.dueFaults(SYMBOLS + "axiom a : " + formula + ". axiom b : P.", SIX + fault + " 0");
    }

    /** "TERMS: a name, or a name ( term {, term} )." */
    private static void terms() {
        dueAxiom("Q(c)", "0");
        dueAxiom("T(c,f(c),g(c,c,f(c)))", "0");
        for (String wrong : new String[] {"Q()", "Q(c", "Q c)", "Q(c,)", "Q(,c)", "Q(c c)", "Q((c))", "Q(c)(c)", "(c) = c", "Q(c = c)", "Q(~c)", "Q(1)", "Q(P -> P)", "Q( *c)", "f(c) = ",
            "= c", "c == c", "c = c = c", "~ = c"}) {
            dueAxiom(wrong, "3");
        }
    }

    /** "imp: or [-> imp]; or: and [+ or]; and: one [* and]" */
    private static void chains() {
        for (String sign : new String[] {"->", "+", "*"}) {
            dueAxiom("P" + sign + "P", "0");
            dueAxiom("P" + sign + "P" + sign + "P", "0");
            dueAxiom("P" + sign, "3");
            dueAxiom(sign + "P", "3");
            dueAxiom("P" + sign + sign + "P", "3");
            dueAxiom("P" + sign + "()", "3");
            dueAxiom("P" + sign + "forall x, P" + sign + "P", "0");
            dueAxiom("P" + sign + "~P" + sign + "P", "0");
        }
        dueAxiom("", "3");
        dueAxiom("P P", "3");
        dueAxiom("()", "3");
        dueAxiom("(P", "3");
        dueAxiom("P)", "3");
        dueAxiom("~", "3");
        dueAxiom("P~", "3");
        dueAxiom("P~P", "3");
        dueAxiom("forall, P", "3");
        dueAxiom("forall x P", "3");
        dueAxiom("forall x,", "3");
        dueAxiom("forall x y, P", "3");
        dueAxiom("forall x: P", "3");
        dueAxiom("exists (x), P", "3");
    }

    /** "At most 12 ( ~ forall exists and ( of terms within one another; more is wrong." */
    private static void nesting() {
        for (int deep = 11; deep <= 13; deep++) {
            String fault = deep <= 12 ? "0" : "3";
            dueAxiom(Client.repeat("(", deep) + "P" + Client.repeat(")", deep), fault);
            dueAxiom(Client.repeat("~", deep) + "P", fault);
            dueAxiom(Client.repeat("forall x, ", deep) + "P", fault);
            dueAxiom(Client.repeat("exists x, ", deep) + "P", fault);
            dueAxiom("Q(" + Client.repeat("f(", deep - 1) + "c" + Client.repeat(")", deep), fault);
            dueAxiom(Client.repeat("f(", deep) + "c" + Client.repeat(")", deep) + " = c", fault);
            dueAxiom("c = " + Client.repeat("f(", deep) + "c" + Client.repeat(")", deep), fault);
            dueAxiom("T(c, c, " + Client.repeat("f(", deep - 1) + "c" + Client.repeat(")", deep), fault);
            dueAxiom("P -> P + P * " + Client.repeat("(", deep) + "P" + Client.repeat(")", deep), fault);
            dueAxiom("(~ forall x, exists y, " + Client.repeat("(", deep - 4) + "P" + Client.repeat(")", deep - 3), fault);
            dueAxiom("(~ forall x, exists y, " + Client.repeat("(", deep - 5) + "Q(c)" + Client.repeat(")", deep - 4), fault);
            dueAxiom("(~ forall x, exists y, " + Client.repeat("(", deep - 6) + "f(f(c)) = c" + Client.repeat(")", deep - 5), fault);
            dueAxiom("~ (" + Client.repeat("~ ", deep - 2) + "P) * " + Client.repeat("~ ", deep) + "P", fault);
            dueAxiom("forall x, P -> " + Client.repeat("forall y, P * ", deep - 1) + "P", fault);
        }
        String deepest = Client.repeat("(", 12) + "P" + Client.repeat(")", 12);
        dueAxiom(deepest + " -> " + deepest + " -> ~" + deepest.substring(1, 24), "0");
        dueAxiom("(" + deepest + ")", "3");
        dueAxiom(Client.repeat("(", 700) + "P" + Client.repeat(")", 600), "3");
        dueAxiom(Client.repeat("~", 1200) + "P", "3");
    }

    private static void nestingInTactics() {
        for (int deep = 12; deep <= 13; deep++) {
            String term = Client.repeat("f(", deep) + "c" + Client.repeat(")", deep);
            String fault = deep == 12 ? "0" : "3";
            Client.dueFaults(SYMBOLS + "lemma l : exists x, Q(x). give " + term + ".", SIX + "0 " + fault);
            Client.dueFaults(SYMBOLS + "axiom a : forall x, Q(x). lemma l : P. use a " + term + " h.", SIX + "0 0 " + fault);
            Client.dueFaults(SYMBOLS + "lemma l : P. have h : " + term + " = c.", SIX + "0 " + fault);
            Client.dueFaults(SYMBOLS + "lemma l : " + term + " = c.", SIX + fault);
        }
        // What a tactic makes may be deeper than what can be read.
        String term = Client.repeat("f(", 12) + "c" + Client.repeat(")", 12);
        Client.dueGoals(SYMBOLS + "lemma l : exists x, Q(f(x)). give " + term + ".", "{\"proof\":\"l\",\"goals\":[\"|- Q(f(" + term + "))\"]}");
    }
}
