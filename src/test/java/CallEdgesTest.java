/** The boundary cases of the document's promises 1 to 13: what each call answers for arguments within and beyond its range. */
public final class CallEdgesTest {
    private static final int LEAST = Integer.MIN_VALUE;
    private static final int MOST = Integer.MAX_VALUE;

    public static void main(String[] args) {
        newObject();
        feedUpToTheFull();
        bytesOfFeed();
        giveWithin();
        giveRefused();
        out();
        take();
        work();
        state();
        document();
        unit();
        sentence();
        batchWithin();
        batchRefused();
        batchTooLong();
        batchBytes();
        verdict();
        goals();
        lastCall();
        Client.end();
    }

    /** "Nothing has come, no document is open." */
    private static void newObject() {
        ProofServer x = new ProofServer();
        for (int what = 0; what <= 10; what++) {
            Client.due("state(" + what + ")", x.state(what), 0);
        }
        Client.due("state(11)", x.state(11), -1);
        Client.due("state(12)", x.state(12), -1);
        Client.due("out(0)", x.out(0), -1);
        Client.due("take()", x.take(), 0);
        Client.due("work(10000)", x.work(10000), 0);
        Client.due("document(0, 0)", x.document(0, 0), -1);
        Client.due("unit(0, 0)", x.unit(0, 0), -1);
        Client.due("sentence(0, 0, 0)", x.sentence(0, 0, 0), -1);
        Client.due("verdict(0, 0)", x.verdict(0, 0), -1);
        Client.due("goals(0, 0)", x.goals(0, 0), -1);
        Client.due("give(0)", x.give(0), 0);
        Client.due("give(1)", x.give(1), -1);
        Client.due("batch(1)", x.batch(1), -1);
        Client.due("batch(0)", x.batch(0), 0);
        ProofServer one = new ProofServer();
        ProofServer other = new ProofServer();
        one.feed(0x71656420, 0, 0, 0, 0);
        Client.due("another object is another one", other.state(9), 0);
    }

    /** "how many there are; -1, doing nothing, when there would be more than 4,000" */
    private static void feedUpToTheFull() {
        ProofServer x = new ProofServer();
        for (int count = 20; count <= 4000; count += 20) {
            Client.due("feed", x.feed(0x20202020, 0x20202020, 0x20202020, 0x20202020, 0x20202020), count);
        }
        for (int i = 0; i < 3; i++) {
            Client.due("feed when it is full", x.feed(-1, -1, -1, -1, -1), -1);
            Client.due("bytes on the tape", x.state(9), 4000);
        }
        Client.due("batch of more than it has", x.batch(4001), -1);
        Client.due("give all", x.give(4000), 0);
        Client.due("the bytes were blanks", x.state(0), 1);
        Client.due("it is empty", x.state(9), 0);
        Client.due("feed again", x.feed(0, 0, 0, 0, 0), 20);
        Client.due("bytes on the tape", x.state(9), 20);
    }

    /** "of each int the highest first" */
    private static void bytesOfFeed() {
        ProofServer x = new ProofServer();
        // qed. (* c *) abort.x and, as a second row, bytes above 127: two units of two bytes.
        x.feed(0x7165642E, 0x20282A20, 0x63202A29, 0x2061626F, 0x72742E78);
        x.feed(0xC3A92ECE, 0xB12E2020, 0x20202020, 0x20202020, 0x7A2E2020);
        Client.due("batch", x.batch(40), 3);
        int[] starts = {0, 13, 34};
        int[] ends = {4, 24, 36};
        for (int k = 0; k < 3; k++) {
            Client.due("start " + k, x.verdict(k, 0), starts[k]);
            Client.due("end " + k, x.verdict(k, 1), ends[k]);
        }
        Client.due("cost of the one with other bytes", x.verdict(1, 3), 3 + 7);
    }

    private static final String ASKED = "Content-Length: 8\r\n\r\n{\"id\":5}";
    private static final String ANSWER = "Content-Length: 71\r\n\r\n{\"jsonrpc\":\"2.0\",\"id\":5,\"error\":{\"code\":-32600,\"message\":\"no request\"}}";

    /** "The tape's first n bytes come from the client, and the tape is empty: how many bytes the output has then." */
    private static void giveWithin() {
        Client client = new Client();
        Server x = client.server;
        client.feed(Client.bytes(ASKED + "Con"));
        Client.due("give(0)", x.give(0), 0);
        Client.due("the tape is empty, though nothing came", x.state(9), 0);
        Client.due("bytes kept", x.state(1), 0);
        client.feed(Client.bytes(ASKED + ASKED));
        Client.due("give one", x.give(ASKED.length()), ANSWER.length());
        Client.due("the other one is gone", x.state(9), 0);
        Client.due("bytes kept", x.state(1), 0);
        client.feed(Client.bytes("Content-Length: 8\r\n\r"));
        Client.due("give all of the tape", x.give(20), ANSWER.length());
        Client.due("bytes kept", x.state(1), 20);
        client.feed(Client.bytes("\n{\"id\":5}Content-Len"));
        Client.due("give all of the tape", x.give(20), 2 * ANSWER.length());
        Client.due("bytes kept", x.state(1), 11);
        Client.due("messages", x.state(2), 2);
    }

    /** "-1, doing nothing, when n is below 0 or more than there are" */
    private static void giveRefused() {
        Client client = new Client();
        Server x = client.server;
        client.feed(Client.bytes(ASKED));
        for (int n : new int[] {-1, 41, 4000, 4001, LEAST, MOST}) {
            Client.due("give(" + n + ")", x.give(n), -1);
            Client.due("bytes on the tape", x.state(9), 40);
            Client.due("bytes kept", x.state(1), 0);
        }
        Client.due("give as before", x.give(ASKED.length()), ANSWER.length());
        Client.due("give(1) of an empty tape", x.give(1), -1);
        Client.due("give(0) of an empty tape", x.give(0), ANSWER.length());
    }

    /** "Byte i of the output; -1 when there is none." */
    private static void out() {
        Client client = new Client();
        Server x = client.server;
        Client.due("out(0) of nothing", x.out(0), -1);
        client.give(ASKED);
        Client.due("out(0)", x.out(0), 'C');
        Client.due("out of the last", x.out(ANSWER.length() - 1), '}');
        for (int i : new int[] {-1, ANSWER.length(), 19999, 20000, 20001, LEAST, MOST}) {
            Client.due("out(" + i + ")", x.out(i), -1);
        }
        for (int i = 0; i < ANSWER.length(); i++) {
            Client.due("out(" + i + ")", x.out(i), ANSWER.charAt(i));
        }
        client.say("{\"id\":\"\u00e9\"}");
        Client.due("a byte above 127", x.out(ANSWER.length() + 22 + 23), 0xC3);
        Client.due("a byte above 127", x.out(ANSWER.length() + 22 + 24), 0xA9);
    }

    /** "The output is empty: how many bytes it had." */
    private static void take() {
        Client client = new Client();
        Server x = client.server;
        Client.due("take() of nothing", x.take(), 0);
        client.give(ASKED + ASKED);
        Client.due("take()", x.take(), 2 * ANSWER.length());
        Client.due("take() again", x.take(), 0);
        Client.due("out(0)", x.out(0), -1);
        Client.due("state(10)", x.state(10), 0);
        Client.due("give", client.give(ASKED), ANSWER.length());
        Client.due("out(0)", x.out(0), 'C');
        Client.due("out behind it", x.out(ANSWER.length()), -1);
    }

    /** "Up to k steps (0 to 10,000) ...: how many; -1 when k is not so." */
    private static void work() {
        Client client = new Client().initialized().open("a", 1, "qed.");
        Server x = client.server;
        for (int k : new int[] {-1, 10001, LEAST, MOST}) {
            Client.due("work(" + k + ")", x.work(k), -1);
            Client.due("steps", x.state(6), 0);
        }
        Client.due("work(0)", x.work(0), 0);
        Client.due("work(4)", x.work(4), 4);
        Client.due("work(10000)", x.work(10000), 1);
        Client.due("work(10001)", x.work(10001), -1);
        Client.due("work(10000)", x.work(10000), 0);
        Client.due("steps", x.state(6), 5);
    }

    /** "-1 for others" */
    private static void state() {
        Client client = new Client().initialized().open("a", 1, "x y. x.").open("b", 1, "x y.");
        client.askGoals("1", "b", 0, 4);
        client.server.work(1);
        client.give("Content-");
        client.server.feed(0, 0, 0, 0, 0);
        int[] want = {0, 8, 4, 2, 1, 0, 1, 0, 0, 20, 0, 1, 0};
        for (int what = 0; what < want.length; what++) {
            Client.due("state(" + what + ")", client.server.state(what), want[what]);
        }
        for (int what : new int[] {-1, 13, 14, 100, LEAST, MOST}) {
            Client.due("state(" + what + ")", client.server.state(what), -1);
        }
    }

    /** "Of the d-th open document (in the order of opening): ...; -1 when there is none such." */
    private static void document() {
        Client client = new Client().initialized().open("a", 5, "x y. x. z").open("b", -9, "");
        Server x = client.server;
        x.work(6);
        int[][] want = {{5, 9, 3, 1}, {-9, 0, 0, 0}};
        for (int d = 0; d < 2; d++) {
            for (int what = 0; what < 4; what++) {
                Client.due("document(" + d + ", " + what + ")", x.document(d, what), want[d][what]);
            }
            for (int what : new int[] {-1, 4, LEAST, MOST}) {
                Client.due("document(" + d + ", " + what + ")", x.document(d, what), -1);
            }
        }
        for (int d : new int[] {-1, 2, 3, LEAST, MOST}) {
            for (int what = 0; what < 4; what++) {
                Client.due("document(" + d + ", " + what + ")", x.document(d, what), -1);
            }
        }
        client.open("c", 1, "").close("a");
        Client.due("b is the first one now", x.document(0, 0), -9);
        Client.due("c is the second one", x.document(1, 0), 1);
        Client.due("there is no third one", x.document(2, 0), -1);
    }

    /** "Unit i of its text; -1 when there is none." */
    private static void unit() {
        Client client = new Client().initialized().open("a", 1, "a\u0000\uffff\ud83d\ude00").open("b", 1, "");
        Server x = client.server;
        int[] want = {'a', 0, 0xFFFF, 0xD83D, 0xDE00};
        for (int i = 0; i < want.length; i++) {
            Client.due("unit(0, " + i + ")", x.unit(0, i), want[i]);
            Client.due("unit(1, " + i + ")", x.unit(1, i), -1);
            Client.due("unit(2, " + i + ")", x.unit(2, i), -1);
            Client.due("unit(-1, " + i + ")", x.unit(-1, i), -1);
        }
        for (int i : new int[] {-1, 5, 1499, 1500, 1501, LEAST, MOST}) {
            Client.due("unit(0, " + i + ")", x.unit(0, i), -1);
        }
        Client.due("unit(LEAST, 0)", x.unit(LEAST, 0), -1);
        Client.due("unit(MOST, 0)", x.unit(MOST, 0), -1);
        client.change("a", 2, Client.whole("bc"));
        Client.due("unit(0, 1)", x.unit(0, 1), 'c');
        Client.due("unit(0, 2) is no more", x.unit(0, 2), -1);
    }

    /** "3 its fault (0 without one; -1 when it is not checked) ...; -1 when there is none such" */
    private static void sentence() {
        Client client = new Client().initialized().open("a", 1, " predicate P 0. x. y").open("b", 1, "");
        Server x = client.server;
        x.work(12);
        dueSentences(x, new int[][] {{1, 15, 1, 0, 7}, {16, 18, 1, 3, 5}, {19, 20, 0, -1, 4}});
        client.change("a", 2, Client.edit(0, 16, 0, 17, "z"));
        dueSentences(x, new int[][] {{1, 15, 1, 0, 7}, {16, 18, 0, -1, 5}, {19, 20, 0, -1, 4}});
        for (int what = 0; what < 5; what++) {
            for (int k : new int[] {-1, 3, 39, 40, LEAST, MOST}) {
                Client.due("sentence(0, " + k + ", " + what + ")", x.sentence(0, k, what), -1);
            }
            Client.due("sentence(1, 0, " + what + ")", x.sentence(1, 0, what), -1);
            for (int d : new int[] {-1, 2, LEAST, MOST}) {
                Client.due("sentence(" + d + ", 0, " + what + ")", x.sentence(d, 0, what), -1);
            }
        }
        for (int what : new int[] {-1, 5, LEAST, MOST}) {
            Client.due("sentence(0, 0, " + what + ")", x.sentence(0, 0, what), -1);
        }
    }

    private static void dueSentences(Server x, int[][] want) {
        for (int k = 0; k < want.length; k++) {
            for (int what = 0; what < 5; what++) {
                Client.due("sentence(0, " + k + ", " + what + ")", x.sentence(0, k, what), want[k][what]);
            }
        }
    }

    /** "The tape's first n bytes ... are a text, and the tape is empty: ... how many sentences it has." */
    private static void batchWithin() {
        Client client = new Client();
        Server x = client.server;
        client.feed(Client.bytes("qed. abort. left. x."));
        Client.due("batch(0)", x.batch(0), 0);
        Client.due("the tape is empty", x.state(9), 0);
        int[] lengths = {1, 3, 4, 5, 10, 11, 17, 18, 19, 20};
        int[] counts = {1, 1, 1, 1, 2, 2, 3, 3, 4, 4};
        int[] faults = {1, 1, 4, 4, 1, 4, 4, 4, 1, 3};
        for (int i = 0; i < lengths.length; i++) {
            client.feed(Client.bytes("qed. abort. left. x."));
            Client.due("batch(" + lengths[i] + ")", x.batch(lengths[i]), counts[i]);
            Client.due("the tape is empty", x.state(9), 0);
            Client.due("fault of the last", x.verdict(counts[i] - 1, 2), faults[i]);
            Client.due("no more", x.verdict(counts[i], 2), -1);
        }
    }

    /** "-1, doing nothing, when n is below 0 or more than there are" */
    private static void batchRefused() {
        Client client = new Client();
        Server x = client.server;
        client.batch("x.");
        client.feed(Client.bytes("qed. abort."));
        for (int n : new int[] {-1, 21, 4000, 4001, LEAST, MOST}) {
            Client.due("batch(" + n + ")", x.batch(n), -1);
            Client.due("bytes on the tape", x.state(9), 20);
            Client.due("the batch before", x.verdict(0, 1), 2);
        }
        Client.due("batch(11)", x.batch(11), 2);
        Client.due("batch(1) of an empty tape", x.batch(1), -1);
        Client.due("the latest one stays", x.verdict(1, 1), 11);
    }

    private static void dueTooLong(String text, boolean isTooLong) {
        Client client = new Client();
        client.batch("qed. x");
        int got = client.batch(text);
        Client.due("too long: " + text.length(), got == -2 ? 1 : 0, isTooLong ? 1 : 0);
        Client.due("the tape is empty", client.server.state(9), 0);
        Client.due("end of the latest batch's last", client.server.verdict(isTooLong ? 1 : 0, 1), isTooLong ? 6 : text.length());
        Client.due("sentences of the latest batch", client.verdicts(2), isTooLong ? "4 1" : "1");
        Client.due("goals of the latest batch", client.goals(1), isTooLong ? "null" : "");
        Client.due("batch behind it", client.batch("qed. abort. x."), 3);
    }

    /** "-2 when it has more than 1,500 units (the tape is empty then, too; the batch before stays the latest one)" */
    private static void batchTooLong() {
        dueTooLong(Client.repeat("a", 1499), false);
        dueTooLong(Client.repeat("a", 1500), false);
        dueTooLong(Client.repeat("a", 1501), true);
        dueTooLong(Client.repeat("a", 3900), true);
        dueTooLong(Client.repeat("\u00e9", 1500), false);
        dueTooLong(Client.repeat("\u00e9", 1501), true);
        dueTooLong(Client.repeat("\ud83d\ude00", 750), false);
        dueTooLong(Client.repeat("\ud83d\ude00", 751), true);
        dueTooLong(Client.repeat("\ud83d\ude00", 749) + "ab", false);
        dueTooLong(Client.repeat("\ud83d\ude00", 749) + "a\ud83d\ude00", true);
        Client client = new Client();
        Client.due("too long as the first one", client.batch(Client.repeat(" ", 1501)), -2);
        Client.due("there is no batch", client.server.verdict(0, 0), -1);
        byte[] wrong = new byte[1501];
        java.util.Arrays.fill(wrong, (byte) 0xFF);
        Client.due("each byte for itself", client.batch(wrong), -2);
        Client.due("one less", client.batch(java.util.Arrays.copyOf(wrong, 1500)), 1);
        Client.due("its end", client.server.verdict(0, 1), 1500);
    }

    private static void dueUnits(int units, int... bytes) {
        Client client = new Client();
        client.batch(Client.joined(Client.bytes(bytes), Client.bytes(" a.")));
        Client.due("units of " + java.util.Arrays.toString(bytes), client.server.verdict(0, 1), units + 3);
        Client.due("cost of " + java.util.Arrays.toString(bytes), client.server.verdict(0, 3), 3 + units + 2);
        client = new Client();
        Client.due("sentences of them at the end", client.batch(Client.bytes(bytes)), 1);
        Client.due("units at the end", client.server.verdict(0, 1), units);
    }

    /** "(UTF-8; what is none: each byte 65533 for itself)" */
    private static void batchBytes() {
        dueUnits(1, 0x7F);
        dueUnits(1, 0xC2, 0x80);
        dueUnits(1, 0xDF, 0xBF);
        dueUnits(1, 0xE0, 0xA0, 0x80);
        dueUnits(1, 0xED, 0x9F, 0xBF);
        dueUnits(1, 0xEE, 0x80, 0x80);
        dueUnits(1, 0xEF, 0xBB, 0xBF);
        dueUnits(2, 0xF0, 0x90, 0x80, 0x80);
        dueUnits(2, 0xF4, 0x8F, 0xBF, 0xBF);
        dueUnits(1, 0x80);
        dueUnits(1, 0xFF);
        dueUnits(1, 0xC2);
        dueUnits(2, 0xC0, 0x80);
        dueUnits(2, 0xC1, 0xBF);
        dueUnits(3, 0xE0, 0x9F, 0xBF);
        dueUnits(3, 0xED, 0xA0, 0x80);
        dueUnits(3, 0xED, 0xBF, 0xBF);
        dueUnits(4, 0xF0, 0x8F, 0xBF, 0xBF);
        dueUnits(4, 0xF4, 0x90, 0x80, 0x80);
        dueUnits(4, 0xF5, 0x80, 0x80, 0x80);
        dueUnits(2, 0xE2, 0x82);
        dueUnits(3, 0xF0, 0x9F, 0x98);
        dueUnits(2, 0xC2, 0xC3, 0xA9);
        dueUnits(3, 0xE2, 0x82, 0xC3, 0xA9);
        dueUnits(2, 0xC2, 0x80, 0x80);
        Client client = new Client();
        client.batch(Client.joined(Client.bytes("a."), Client.bytes(0xC2), Client.bytes(" b.")));
        Client.due("65533 is no blank", client.verdicts(1), "6");
        client.feed(Client.bytes("qed.\u00e9"));
        Client.due("a sequence that the last byte cuts", client.server.batch(5), 1);
        Client.due("its end", client.server.verdict(0, 1), 5);
    }

    /** "4 goals behind it (-1 without a proof), 5 facts behind it; -1 when there is none such" */
    private static void verdict() {
        Client client = new Client();
        Server x = client.server;
        client.batch("predicate P 0. axiom p : P. lemma l : P. exact p. qed. x");
        int[][] want = {{0, 14, 0, 7, -1, 0}, {15, 27, 0, 8, -1, 1}, {28, 40, 0, 8, 1, 1}, {41, 49, 0, 6, 0, 1}, {50, 54, 0, 5, -1, 2}, {55, 56, 1, 4, -1, 2}};
        for (int k = 0; k < want.length; k++) {
            for (int what = 0; what < 6; what++) {
                Client.due("verdict(" + k + ", " + what + ")", x.verdict(k, what), want[k][what]);
            }
            for (int what : new int[] {-1, 6, LEAST, MOST}) {
                Client.due("verdict(" + k + ", " + what + ")", x.verdict(k, what), -1);
            }
        }
        for (int k : new int[] {-1, 6, 39, 40, LEAST, MOST}) {
            for (int what = 0; what < 6; what++) {
                Client.due("verdict(" + k + ", " + what + ")", x.verdict(k, what), -1);
            }
        }
        client.batch("x");
        Client.due("verdict(0, 1) of the latest one", x.verdict(0, 1), 1);
        Client.due("verdict(1, 1) of the latest one", x.verdict(1, 1), -1);
        client.batch(Client.repeat("x. ", 40));
        Client.due("verdict(39, 1)", x.verdict(39, 1), 119);
        Client.due("verdict(40, 1)", x.verdict(40, 1), -1);
    }

    /** "(-1: ahead of all), as it is written: byte i of it; -1 when there is none" */
    private static void goals() {
        Client client = new Client();
        Server x = client.server;
        client.batch("predicate P 0. lemma l : P. qed. abort.");
        String[] want = {"null", "null", "{\"proof\":\"l\",\"goals\":[\"|- P\"]}", "{\"proof\":\"l\",\"goals\":[\"|- P\"]}", "null"};
        for (int k = -1; k < 4; k++) {
            Client.due("goals(" + k + ")", client.goals(k), want[k + 1]);
            int length = want[k + 1].length();
            Client.due("last byte of goals(" + k + ")", x.goals(k, length - 1), want[k + 1].charAt(length - 1));
            for (int i : new int[] {-1, length, 1000, LEAST, MOST}) {
                Client.due("goals(" + k + ", " + i + ")", x.goals(k, i), -1);
            }
        }
        for (int k : new int[] {-2, 4, 39, 40, LEAST, MOST}) {
            Client.due("goals(" + k + ", 0)", x.goals(k, 0), -1);
        }
        Client.due("back and forth", x.goals(1, 2) * 1000 + x.goals(-1, 2) + x.goals(0, 1), 'p' * 1000 + 'l' + 'u');
        client.batch("");
        Client.due("ahead of all of nothing", client.goals(-1), "null");
        Client.due("goals(0, 0) of nothing", x.goals(0, 0), -1);
        client.batch("x.");
        Client.due("goals(0, 0) of a batch", x.goals(0, 0), 'n');
        client.batch("lemma m : False.");
        Client.due("goals(0, 0) of the next batch", x.goals(0, 0), '{');
        Client.due("the latest one", client.goals(0), "{\"proof\":\"m\",\"goals\":[\"|- False\"]}");
        client.batch(Client.repeat(" ", 1501));
        Client.due("it stays", client.goals(0), "{\"proof\":\"m\",\"goals\":[\"|- False\"]}");
    }

    /** "An object is used for at most 512 calls": the 512th one answers as the first one does. */
    private static void lastCall() {
        ProofServer x = new ProofServer();
        for (int i = 0; i < 170; i++) {
            x.feed(0x7165642E, 0x20782E20, 0x20202020, 0x20202020, 0x20202020);
            Client.due("batch", x.batch(20), 2);
            Client.due("verdict", x.verdict(1, 1), 7);
        }
        x.feed(0x7165642E, 0x20782E20, 0x20202020, 0x20202020, 0x20202020);
        Client.due("the 512th call", x.batch(20), 2);
        x = new ProofServer();
        for (int i = 0; i < 511; i++) {
            x.state(i);
        }
        Client.due("the 512th call", x.feed(0, 0, 0, 0, 0), 20);
    }
}
