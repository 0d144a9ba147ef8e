/** Term 1: frames, and when the server is broken (promises 3 and 7). */
public final class FramesTest {
    private static final String BODY = "{}";

    public static void main(String[] args) {
        wholeFrames();
        brokenFrames();
        whereItBreaks();
        brokenServer();
        Client.end();
    }

    private static void dueWhole(String headers) {
        Client client = new Client();
        client.give(headers + BODY);
        Client.due("broken by " + headers, client.server.state(0), 0);
        Client.due("messages of " + headers, client.server.state(2), 1);
    }

    private static void dueBroken(String bytes) {
        Client client = new Client();
        client.give(bytes);
        Client.due("broken by " + bytes, client.server.state(0), 1);
        Client.due("kept of " + bytes, client.server.state(1), 0);
    }

    private static void wholeFrames() {
        dueWhole("Content-Length: 2\r\n\r\n");
        dueWhole("content-length:2\r\n\r\n");
        dueWhole("CONTENT-LENGTH:      0002\r\n\r\n");
        dueWhole("Zz-Aa:\r\nContent-Length: 2\r\nY-z:  a~!b  \r\n\r\n");
        dueWhole("Content-Length: 9\r\nContent-Length: 2\r\n\r\n");
        dueWhole("Content-Lengths: x\r\nContent-Lengt: y\r\nContent-Length: 2\r\n\r\n");
        String line = "Content-Length: 2\r\n";
        dueWhole("A:" + Client.repeat("v", 200 - line.length() - 6) + "\r\n" + line + "\r\n");
        Client client = new Client();
        client.give("Content-Length: 0\r\n\r\nContent-Length: 3000\r\n\r\n" + Client.repeat(" ", 2999));
        Client.due("messages", client.server.state(2), 1);
        Client.due("kept", client.server.state(1), 24 + 2999);
        client.give("1");
        Client.due("messages", client.server.state(2), 2);
        client.dueAnswers("an empty frame and a number", Client.error("null", -32700, "not json"), Client.error("null", -32600, "no request"));
    }

    private static void brokenFrames() {
        dueBroken("\r");
        dueBroken(":");
        dueBroken(" ");
        dueBroken("A1");
        dueBroken("A\r");
        dueBroken("A:\t");
        dueBroken("A:\u007f");
        dueBroken("A:x\n");
        dueBroken("A:x\rB");
        dueBroken("A:x\r\n\r");
        dueBroken("Content-Length:\r");
        dueBroken("Content-Length: x");
        dueBroken("Content-Length: 1 ");
        dueBroken("Content-Length: -");
        dueBroken("Content-Length: 3001");
        dueBroken("Content-Length: 00001");
        dueBroken("Content-Length: 2\r\n\rx");
        dueBroken("A:" + Client.repeat("v", 199));
    }

    private static void whereItBreaks() {
        Client client = new Client();
        client.give("A:" + Client.repeat("v", 198));
        Client.due("200 bytes of headers", client.server.state(0), 0);
        Client.due("kept", client.server.state(1), 200);
        client.give("\r");
        Client.due("the 201st", client.server.state(0), 1);
        client = new Client();
        client.give("Content-Length: 300");
        Client.due("a number that may go on", client.server.state(0), 0);
        client.give("0");
        Client.due("3,000 is fine", client.server.state(0), 0);
        client.give("\r");
        Client.due("kept", client.server.state(1), 21);
    }

    private static void brokenServer() {
        Client client = new Client().initialized();
        client.open("a", 1, "qed.");
        client.askGoals("1", "a", 0, 4);
        client.server.take();
        client.give("Content-Length: 2\r\n\r\n{}!Content-Length: 2\r\n\r\n{}");
        Client.due("broken", client.server.state(0), 1);
        client.dueAnswers("the frame ahead was taken", Client.error("null", -32600, "no request"));
        client.say("{}");
        Client.due("later bytes are ignored", client.server.state(2), 4);
        Client.due("work goes on", client.server.work(100), 5);
        Client.due("checked", client.server.document(0, 3), 1);
        Client.due("nothing waits", client.server.state(4), 0);
        Client.due("nothing is written", client.server.state(10), 0);
        Client.due("nothing is lost", client.server.state(8), 0);
        client = new Client();
        client.give(Client.joined(Client.framed(Client.bytes("{\"jsonrpc\":\"2.0\",\"method\":\"exit\"}")), Client.bytes("x")));
        Client.due("exit", client.server.state(0), 1);
        Client.due("kept behind exit", client.server.state(1), 0);
        Client.due("messages with exit", client.server.state(2), 1);
    }
}
