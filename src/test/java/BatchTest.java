/** Promises 11 and 12: batch and verdict. */
public final class BatchTest {
    public static void main(String[] args) {
        tape();
        bytes();
        lengths();
        verdicts();
        apart();
        Client.end();
    }

    private static void tape() {
        Client client = new Client();
        Server x = client.server;
        client.feed(Client.bytes("qed. abort. left."));
        Client.due("batch(-1)", x.batch(-1), -1);
        Client.due("batch(21)", x.batch(21), -1);
        Client.due("the tape is as it was", x.state(9), 20);
        Client.due("batch(11)", x.batch(11), 2);
        Client.due("the tape is empty", x.state(9), 0);
        Client.due("batch(0)", x.batch(0), 0);
        Client.due("no sentence", x.verdict(0, 0), -1);
        Client.due("ahead of all", client.goals(-1), "null");
    }

    /** Units are seen by what a sentence costs and where it ends. */
    private static void dueUnits(int units, int... bytes) {
        Client client = new Client();
        client.batch(Client.joined(Client.bytes(bytes), Client.bytes(".")));
        Client.due("units of " + java.util.Arrays.toString(bytes), client.server.verdict(0, 1), units + 1);
        Client.due("cost of " + java.util.Arrays.toString(bytes), client.server.verdict(0, 3), units + 4);
    }

    private static void bytes() {
        dueUnits(1, 0xC3, 0xA9);
        dueUnits(1, 0xE2, 0x82, 0xAC);
        dueUnits(2, 0xF0, 0x9F, 0x98, 0x80);
        dueUnits(1, 0xEF, 0xBB, 0xBF);
        dueUnits(1, 0x80);
        dueUnits(2, 0xC0, 0x80);
        dueUnits(3, 0xED, 0xA0, 0x80);
        dueUnits(4, 0xF4, 0x90, 0x80, 0x80);
        dueUnits(4, 0xF0, 0x8F, 0xBF, 0xBF);
        dueUnits(2, 0xE2, 0x82);
        dueUnits(3, 0xF0, 0x9F, 0x98);
        dueUnits(3, 0xE2, 0xC3, 0xA9, 0xFF);
        dueUnits(2, 0, 127);
        Client client = new Client();
        client.batch(Client.joined(Client.bytes("qe"), Client.bytes(0xC3)));
        Client.due("a cut one at the end", client.server.verdict(0, 1), 3);
        client.feed(Client.bytes("\ud83d\ude00"));
        Client.due("only the first bytes are the text", client.server.batch(3), 1);
        Client.due("its units", client.server.verdict(0, 1), 3);
    }

    private static void lengths() {
        Client client = new Client();
        Client.due("1,500 units", client.batch("qed. " + Client.repeat(" ", 1495)), 1);
        Client.due("1,501 units", client.batch(Client.repeat(" ", 1501)), -2);
        Client.due("the tape is empty", client.server.state(9), 0);
        Client.due("the batch before stays", client.server.verdict(0, 1), 4);
        Client.due("its goals too", client.goals(0), "null");
        client = new Client();
        Client.due("1,500 units of two bytes", client.batch(Client.repeat("\u00e9", 1500)), 1);
        Client.due("1,500 units of pairs", client.batch(Client.repeat("\ud83d\ude00", 750)), 1);
        client = new Client();
        client.batch(Client.repeat("a", 1500));
        Client.due("1,502 units of pairs", client.batch(Client.repeat("\ud83d\ude00", 751)), -2);
        Client.due("1,501 units, the last one a pair", client.batch(Client.repeat("a", 1499) + "\ud83d\ude00"), -2);
        Client.due("the batch before stays", client.server.verdict(0, 1), 1500);
    }

    private static void verdicts() {
        Client client = new Client();
        Client.due("batch", client.batch("predicate P 0.\naxiom p : P. (* c *) lemma l : P * P.\nsplit. exact p. exact q. exact p. qed. x"), 9);
        Client.due("starts", client.verdicts(0), "0 15 36 53 60 69 78 87 92");
        Client.due("ends", client.verdicts(1), "14 27 52 59 68 77 86 91 93");
        Client.due("faults", client.verdicts(2), "0 0 0 0 0 5 0 0 1");
        Client.due("costs", client.verdicts(3), "7 8 10 5 6 6 6 5 4");
        Client.due("goals", client.verdicts(4), "-1 -1 1 2 1 1 0 -1 -1");
        Client.due("facts", client.verdicts(5), "0 1 1 1 1 1 1 2 2");
    }

    private static void apart() {
        Client client = new Client().initialized().open("a", 1, "predicate P 0. axiom p : P.");
        Server x = client.server;
        client.batch("predicate P 0. axiom p : P.");
        Client.due("no steps", x.state(6), 0);
        Client.due("no cache", x.state(5), 0);
        Client.due("the document is not checked", x.document(0, 3), 0);
        Client.due("the document's text", x.unit(0, 0), 'p');
        client.batch("x");
        client.change("a", 2, Client.edit(0, 0, 0, 0, " "));
        Client.due("the batch is as it was", x.verdict(0, 1), 1);
        x.work(1000);
        client.give("!");
        Client.due("a broken server has batches", client.batch("qed. qed."), 2);
        Client.due("verdict", x.verdict(1, 2), 4);
        Client.due("still broken", x.state(0), 1);
    }
}
