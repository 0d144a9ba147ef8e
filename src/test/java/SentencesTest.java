/** Term 4: a text is parted into sentences, and what they cost (promises 10 to 12). */
public final class SentencesTest {
    public static void main(String[] args) {
        places();
        comments();
        unfinished();
        tooMuch();
        costs();
        ofDocuments();
        Client.end();
    }

    private static void dueParts(String text, String starts, String ends, String faults) {
        Client client = new Client();
        client.batch(text);
        Client.due("starts of " + text, client.verdicts(0), starts);
        Client.due("ends of " + text, client.verdicts(1), ends);
        Client.due("faults of " + text, client.verdicts(2), faults);
    }

    private static void places() {
        dueParts("", "", "", "");
        dueParts(" \t\r\n", "", "", "");
        dueParts("a.", "0", "2", "3");
        dueParts(" a. b.\nc.\td.\re. ", "1 4 7 10 13", "3 6 9 12 15", "3 3 3 3 3");
        dueParts("a.b. c", "0 5", "4 6", "3 1");
        dueParts("a..b", "0", "4", "1");
        dueParts("a.. b.", "0 4", "3 6", "3 3");
        dueParts(".", "0", "1", "3");
        dueParts(". .", "0 2", "1 3", "3 3");
        dueParts("a.\u00a0b.", "0", "5", "3");
    }

    private static void comments() {
        dueParts("(* a. *)", "", "", "");
        dueParts("(* a (* b *) c. *) d.", "19", "21", "3");
        dueParts("a(* . *)b.", "0", "10", "3");
        dueParts("a.(* b *)c.", "0 9", "2 11", "3 3");
        dueParts("a.(b. c.", "0 6", "5 8", "3 3");
        dueParts("(**)a.", "4", "6", "3");
        dueParts("(* ***) a.", "8", "10", "3");
        dueParts("*) a.", "0", "5", "3");
        dueParts("a. (*) b. *) c.", "0 13", "2 15", "3 3");
    }

    private static void unfinished() {
        dueParts("a", "0", "1", "1");
        dueParts("a. b  ", "0 3", "2 6", "3 1");
        dueParts("a (* b. ", "0", "8", "1");
        dueParts("a. (* b. ", "0 3", "2 9", "3 1");
        dueParts(" (* (* *) a. ", "1", "13", "1");
        dueParts("a.(*", "0 2", "2 4", "3 1");
        dueParts("(*)", "0", "3", "1");
        dueParts("a (* . *)", "0", "9", "1");
    }

    private static void tooMuch() {
        String forty = Client.repeat("a. ", 40);
        Client client = new Client();
        Client.due("forty", client.batch(forty + " (* b. *) \n"), 40);
        Client.due("fault of the 40th", client.server.verdict(39, 2), 3);
        Client.due("end of the 40th", client.server.verdict(39, 1), 119);
        Client.due("41", client.batch(forty + "b. c"), 40);
        Client.due("fault of the 40th", client.server.verdict(39, 2), 2);
        Client.due("end of the 40th", client.server.verdict(39, 1), 124);
        Client.due("cost of the 40th", client.server.verdict(39, 3), 4);
        Client.due("fault of the 39th", client.server.verdict(38, 2), 3);
        Client.due("a comment without end", client.batch(forty + "(* b. "), 40);
        Client.due("fault of the 40th", client.server.verdict(39, 2), 2);
        Client.due("39 and one that is unfinished", client.batch(Client.repeat("a. ", 39) + "b"), 40);
        Client.due("fault of the 40th", client.server.verdict(39, 2), 1);
    }

    private static void dueCost(String sentence, int want) {
        Client client = new Client();
        client.batch(sentence);
        Client.due("cost of " + sentence, client.server.verdict(0, 3), want);
    }

    private static void costs() {
        dueCost("qed.", 5);
        dueCost("predicate P 0.", 7);
        dueCost("lemma l : P -> P * P.", 12);
        dueCost("axiom a: forall x,P(x)+~x=f(x,y).", 24);
        dueCost("a(* b c *)d.", 6);
        dueCost("abcdefghij.", 5);
        dueCost("abcdefghijk.", 15);
        dueCost("a_b'c9 9a.", 7);
        dueCost("12 -- > ~.", 10);
        dueCost("->-->.", 7);
        dueCost("a.b.", 7);
        dueCost("_a'.", 6);
        dueCost("'a.", 6);
        dueCost("\u00e9\ud83d\ude00.", 7);
        dueCost("a b c d", 4);
    }

    private static void ofDocuments() {
        Client client = new Client().initialized().open("a", 1, " qed. (* x *) abort");
        Server x = client.server;
        int[] first = {1, 5, 0, -1, 5};
        int[] second = {14, 19, 0, -1, 4};
        for (int what = 0; what < 5; what++) {
            Client.due("sentence(0, 0, " + what + ")", x.sentence(0, 0, what), first[what]);
            Client.due("sentence(0, 1, " + what + ")", x.sentence(0, 1, what), second[what]);
            Client.due("sentence(0, 2, " + what + ")", x.sentence(0, 2, what), -1);
            Client.due("sentence(1, 0, " + what + ")", x.sentence(1, 0, what), -1);
        }
        x.work(5);
        Client.due("checked", x.sentence(0, 0, 2), 1);
        Client.due("its fault", x.sentence(0, 0, 3), 4);
        Client.due("not checked", x.sentence(0, 1, 2), 0);
        x.work(4);
        Client.due("checked", x.sentence(0, 1, 2), 1);
        Client.due("its fault", x.sentence(0, 1, 3), 1);
        client.dueAnswers("diagnostics", Client.diagnostics("a", 1, Client.diagnostic(0, 1, 0, 5, "not here"), Client.diagnostic(0, 14, 0, 19, "unfinished")));
    }
}
