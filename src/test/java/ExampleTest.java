import java.nio.charset.StandardCharsets;

/** The example of README.md, line by line: what it says that the calls answer. */
public final class ExampleTest {
    public static void main(String[] args) {
        session();
        batch();
        Client.end();
    }

    static void put(ProofServer server, byte[] bytes) {
        int[] five = new int[5];
        for (int i = 0; i < bytes.length; i += 20) {
            for (int k = 0; k < 20; k++) {
                five[k / 4] = five[k / 4] << 8 | (i + k < bytes.length ? bytes[i + k] & 255 : 0);
            }
            server.feed(five[0], five[1], five[2], five[3], five[4]);
        }
    }

    static int say(ProofServer server, String json) {
        byte[] body = json.getBytes(StandardCharsets.UTF_8);
        byte[] head = ("Content-Length: " + body.length + "\r\n\r\n").getBytes(StandardCharsets.UTF_8);
        put(server, Client.joined(head, body));
        return server.give(head.length + body.length);
    }

    private static void session() {
        ProofServer server = new ProofServer();
        Client.due("initialize", say(server, "{\"jsonrpc\":\"2.0\",\"id\":1,\"method\":\"initialize\"}"), 95);
        Client.due("take", server.take(), 95);
        Client.due("didOpen", say(server, "{\"jsonrpc\":\"2.0\",\"method\":\"textDocument/didOpen\",\"params\":"
                + "{\"textDocument\":{\"uri\":\"a\",\"version\":1,\"text\":\"predicate P 0. lemma l : P -> P. intro h.\"}}}"), 0);
        Client.due("document", server.document(0, 2), 3);
        Client.due("proof/goals", say(server, "{\"jsonrpc\":\"2.0\",\"id\":2,\"method\":\"proof/goals\",\"params\":"
                + "{\"textDocument\":{\"uri\":\"a\"},\"position\":{\"line\":0,\"character\":41}}}"), 0);
        Client.due("it waits", server.state(4), 1);
        // The sentences cost 7, 10 and 6; worker 1 begins the second one in the step in which worker 0 leaves the first one.
        Client.due("work", server.work(10000), 22);
        StringBuilder written = new StringBuilder();
        for (int i = 0, b = server.out(0); b >= 0; b = server.out(++i)) {
            written.append((char) b);
        }
        Client.due("the output", written.toString(), "Content-Length: 110\r\n\r\n"
                + "{\"jsonrpc\":\"2.0\",\"method\":\"textDocument/publishDiagnostics\",\"params\":{\"uri\":\"a\",\"version\":1,\"diagnostics\":[]}}"
                + "Content-Length: 71\r\n\r\n"
                + "{\"jsonrpc\":\"2.0\",\"id\":2,\"result\":{\"proof\":\"l\",\"goals\":[\"h : P, |- P\"]}}");
    }

    private static void batch() {
        ProofServer server = new ProofServer();
        byte[] text = "predicate P 0. lemma l : P -> P. split.".getBytes(StandardCharsets.UTF_8);
        put(server, text);
        Client.due("batch", server.batch(text.length), 3);
        Client.due("the fault of the last sentence", server.verdict(2, 2), 8);
        Client.due("goals behind it", server.verdict(2, 4), 1);
        Client.due("the first byte of them", server.goals(2, 0), '{');
    }
}
