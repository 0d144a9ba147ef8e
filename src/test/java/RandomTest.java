import java.util.Random;

/** Random runs: nothing is thrown, and whatever edits and steps there were, a document is judged as a batch of its text. */
public final class RandomTest {
    private static final String[] PIECES = {"predicate P 0. ", "predicate Q 1. ", "function c 0. ", "function f 1. ", "axiom a : P. ",
        "axiom q : forall x, Q(x) -> Q(f(x)). ", "lemma l : P -> P * P. ", "lemma m : Q(c) -> exists x, Q(f(x)). ", "intro h. ", "intro x. ", "split. ",
        "exact h. ", "apply q. ", "give c. ", "have k : P + Q(c). ", "cases k u v. ", "left. ", "use q c r. ", "qed. ", "abort. ", "(* note *) ",
        "same. ", "rewrite h. ", "x", "(* ", ". ", "*) ", "\n", "~", "->", "\u00e9", "forall ", "("};

    public static void main(String[] args) {
        for (int seed = 1; seed <= 60; seed++) {
            edits(new Random(seed));
        }
        for (int seed = 1; seed <= 200; seed++) {
            noise(new Random(seed));
        }
        Client.end();
    }

    private static String text(Random random, int pieces) {
        StringBuilder row = new StringBuilder();
        for (int i = 0; i < pieces; i++) {
            int kind = random.nextInt(10) < 8 ? random.nextInt(22) : random.nextInt(PIECES.length);
            row.append(PIECES[kind]);
        }
        return row.toString();
    }

    private static void edits(Random random) {
        Client client = new Client().initialized().open("a", 1, text(random, 20)).open("b", 1, text(random, 8));
        Server x = client.server;
        for (int turn = 2; turn < 20; turn++) {
            String uri = random.nextBoolean() ? "a" : "b";
            int from = random.nextInt(200);
            int line = random.nextInt(3);
            client.change(uri, turn, Client.edit(line, from, line, from + random.nextInt(12), random.nextBoolean() ? text(random, 1) : ""));
            if (random.nextInt(3) == 0) {
                client.askGoals("1", uri, 0, random.nextInt(100));
            }
            x.work(random.nextInt(60));
            client.server.take();
        }
        x.work(10000);
        for (int d = 0; d < 2; d++) {
            dueAsBatch(client, d);
        }
    }

    private static void dueAsBatch(Client client, int d) {
        Server x = client.server;
        String text = client.text(d);
        Client batch = new Client();
        Client.due("sentences of " + text, x.document(d, 2), batch.batch(text));
        Client.due("checked of " + text, x.document(d, 3), x.document(d, 2));
        for (int k = 0; k < x.document(d, 2); k++) {
            Client.due("start " + k + " of " + text, x.sentence(d, k, 0), batch.server.verdict(k, 0));
            Client.due("end " + k + " of " + text, x.sentence(d, k, 1), batch.server.verdict(k, 1));
            Client.due("fault " + k + " of " + text, x.sentence(d, k, 3), batch.server.verdict(k, 2));
            Client.due("cost " + k + " of " + text, x.sentence(d, k, 4), batch.server.verdict(k, 3));
        }
    }

    private static void noise(Random random) {
        Client client = new Client().initialized().open("a", 1, text(random, 10));
        Server x = client.server;
        for (int i = 0; i < 400; i++) {
            int n = random.nextInt(50) - 2;
            switch (random.nextInt(12)) {
                case 0: x.feed(random.nextInt(), random.nextInt(), random.nextInt(), random.nextInt(), random.nextInt()); break;
                case 1: x.batch(n * 20); break;
                case 2: x.out(n); break;
                case 3: x.take(); break;
                case 4: x.work(n); break;
                case 5: x.state(n); break;
                case 6: x.document(n % 5, n); break;
                case 7: x.unit(n % 5, n); break;
                case 8: x.sentence(n % 5, n, n % 7); break;
                case 9: x.verdict(n, n % 7); break;
                case 10: x.goals(n, n); break;
                default: mangled(client, random);
            }
        }
    }

    /** A message with a byte that is not as it was: it may break the server, but nothing else. */
    private static void mangled(Client client, Random random) {
        String change = "{\"jsonrpc\":\"2.0\",\"method\":\"textDocument/didChange\",\"params\":{\"textDocument\":{\"uri\":\"a\",\"version\":" + random.nextInt(99)
                + "},\"contentChanges\":[" + Client.edit(0, random.nextInt(40), 0, random.nextInt(80), text(random, 2)) + "]}}";
        byte[] bytes = Client.framed(Client.bytes(change));
        int at = random.nextInt(30) == 0 ? random.nextInt(20) : 22 + random.nextInt(bytes.length - 22);
        bytes[at] = (byte) random.nextInt(256);
        if (client.server.state(9) == 0) {
            client.give(bytes);
        }
    }
}
