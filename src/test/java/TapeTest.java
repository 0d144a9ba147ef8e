/** Promises 2 to 5: feed, give, out, take. */
public final class TapeTest {
    private static final String ASKED = "Content-Length: 24\r\n\r\n{\"jsonrpc\":\"2.0\",\"id\":5}";
    private static final String ANSWER = "Content-Length: 71\r\n\r\n"
            + "{\"jsonrpc\":\"2.0\",\"id\":5,\"error\":{\"code\":-32600,\"message\":\"no request\"}}";

    public static void main(String[] args) {
        feed();
        give();
        output();
        Client.end();
    }

    private static void feed() {
        ProofServer x = new ProofServer();
        for (int i = 1; i <= 200; i++) {
            Client.due("feed", x.feed(0x41424344, 0x45464748, -1, 0, 0x20202020), 20 * i);
        }
        Client.due("feed beyond 4,000", x.feed(0, 0, 0, 0, 0), -1);
        Client.due("state(9)", x.state(9), 4000);
        Client.due("batch(4)", x.batch(4), 1);
        Client.due("first unit is not lost", x.verdict(0, 1), 4);
        Client.due("tape is empty", x.state(9), 0);
        Client.due("feed again", x.feed(0, 0, 0, 0, 0), 20);
    }

    private static void give() {
        Client client = new Client();
        Server x = client.server;
        client.feed(Client.bytes(ASKED));
        Client.due("give(-1)", x.give(-1), -1);
        Client.due("give(61)", x.give(61), -1);
        Client.due("state(9) is as it was", x.state(9), 60);
        Client.due("give(10)", x.give(10), 0);
        Client.due("the tape is empty", x.state(9), 0);
        Client.due("bytes kept", x.state(1), 10);
        client.feed(Client.bytes(ASKED.substring(10)));
        Client.due("give the rest", x.give(ASKED.length() - 10), ANSWER.length());
        Client.due("bytes kept of a whole frame", x.state(1), 0);
        Client.due("messages", x.state(2), 1);
        Client.due("give twice", client.give(ASKED + ASKED), 3 * ANSWER.length());
        Client.due("give(0)", x.give(0), 3 * ANSWER.length());
    }

    private static void output() {
        Client client = new Client();
        Server x = client.server;
        client.give(ASKED);
        Client.due("output", new String(client.output()), ANSWER);
        Client.due("out(-1)", x.out(-1), -1);
        Client.due("out behind the last", x.out(ANSWER.length()), -1);
        Client.due("out of the last", x.out(ANSWER.length() - 1), '}');
        Client.due("take()", x.take(), ANSWER.length());
        Client.due("take() again", x.take(), 0);
        Client.due("out(0)", x.out(0), -1);
        Client.due("state(10)", x.state(10), 0);
    }
}
