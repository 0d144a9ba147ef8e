/** The boundary cases of the document's term 1, FRAMES, one sentence of it after the other. */
public final class FrameEdgesTest {
    private static final String LENGTH = "Content-Length: 2\r\n";
    private static final String INITIALIZE = "{\"jsonrpc\":\"2.0\",\"id\":0,\"method\":\"initialize\"}";
    private static final String CAPABLE = Client.result("0", "{\"capabilities\":{\"textDocumentSync\":2}}");
    private static final String NO_REQUEST = Client.error("null", -32600, "no request");
    private static final String NOT_JSON = Client.error("null", -32700, "not json");

    public static void main(String[] args) {
        keptUntilWhole();
        names();
        blanksAndValues();
        lineEnds();
        lengthNames();
        lengthDigits();
        lengthNumbers();
        lastLengthCounts();
        noLength();
        headerBytes();
        ignoredForEver();
        wholeFramesAhead();
        workOfABrokenServer();
        fullOutput();
        lostFrames();
        lengthsOfFrames();
        lostByWork();
        lostByABrokenServer();
        Client.end();
    }

    /** Headers that are as they must be, with a body of two bytes: it is taken, and so is the frame behind it. */
    private static void dueTaken(byte[] headers) {
        Client client = new Client();
        String name = "headers " + new String(headers, java.nio.charset.StandardCharsets.ISO_8859_1);
        client.give(Client.joined(headers, Client.bytes("{")));
        Client.due(name + ": broken", client.server.state(0), 0);
        Client.due(name + ": kept", client.server.state(1), headers.length + 1);
        Client.due(name + ": messages", client.server.state(2), 0);
        client.give("}");
        Client.due(name + ": kept when it is whole", client.server.state(1), 0);
        Client.due(name + ": messages when it is whole", client.server.state(2), 1);
        client.say(INITIALIZE);
        client.dueAnswers(name, NO_REQUEST, CAPABLE);
    }

    private static void dueTaken(String headers) {
        dueTaken(Client.bytes(headers));
    }

    /** The last of these bytes is the first one that can't be so: it breaks the server, and nothing is taken any more. */
    private static void dueBroken(byte[] bytes) {
        Client client = new Client();
        String name = "bytes " + new String(bytes, java.nio.charset.StandardCharsets.ISO_8859_1);
        client.feed(bytes);
        client.server.give(bytes.length - 1);
        Client.due(name + ": broken ahead of the last", client.server.state(0), 0);
        Client.due(name + ": kept ahead of the last", client.server.state(1), bytes.length - 1);
        client.give(Client.bytes(bytes[bytes.length - 1]));
        Client.due(name + ": broken by the last", client.server.state(0), 1);
        Client.due(name + ": kept", client.server.state(1), 0);
        client.give("\r\n" + LENGTH + "\r\n{}");
        client.say(INITIALIZE);
        Client.due(name + ": messages", client.server.state(2), 0);
        Client.due(name + ": output", client.server.state(10), 0);
        Client.due(name + ": still broken", client.server.state(0), 1);
        Client.due(name + ": kept later", client.server.state(1), 0);
    }

    private static void dueBroken(String bytes) {
        dueBroken(Client.bytes(bytes));
    }

    private static byte[] with(String ahead, int b, String behind) {
        return Client.joined(Client.bytes(ahead), Client.bytes(b), Client.bytes(behind));
    }

    /** "Bytes that come are kept until a frame is whole; then its message is taken." */
    private static void keptUntilWhole() {
        Client client = new Client();
        byte[] frame = Client.framed(Client.bytes(INITIALIZE));
        for (int i = 0; i < frame.length - 1; i++) {
            client.server.feed(frame[i] << 24, 0, 0, 0, 0);
            Client.due("output ahead of the last byte", client.server.give(1), 0);
            Client.due("kept", client.server.state(1), i + 1);
        }
        Client.due("messages", client.server.state(2), 0);
        client.give(Client.bytes(frame[frame.length - 1]));
        Client.due("kept of a whole frame", client.server.state(1), 0);
        Client.due("messages", client.server.state(2), 1);
        client.dueAnswers("byte by byte", CAPABLE);
        client.give(Client.joined(Client.framed(Client.bytes("1")), Client.framed(Client.bytes("")), Client.bytes("Content")));
        Client.due("kept behind two frames", client.server.state(1), 7);
        Client.due("messages", client.server.state(2), 3);
        client.dueAnswers("two at once", NO_REQUEST, NOT_JSON);
    }

    /** "a name (letters a to z, A to Z, and -, one or more)" */
    private static void names() {
        for (String name : new String[] {"a", "z", "A", "Z", "-", "--", "azAZ-"}) {
            dueTaken(name + ":v\r\n" + LENGTH + "\r\n");
        }
        for (char b : "`{@[,./0_ \t:\r\n".toCharArray()) {
            dueBroken(String.valueOf(b));
            if (b != ':') {
                dueBroken("aZ-" + b);
            }
        }
        dueBroken(with("", 0xC1, ""));
        dueBroken(with("a", 0xE1, ""));
        dueBroken(with("a", 0, ""));
        dueBroken(LENGTH + ":");
    }

    /** "a :, blanks (32, perhaps none), a value (bytes 33 to 126 and blanks, perhaps none)" */
    private static void blanksAndValues() {
        dueTaken("A:\r\n" + LENGTH + "\r\n");
        dueTaken("A:   \r\n" + LENGTH + "\r\n");
        dueTaken("A:!~ ! ~  \r\n" + LENGTH + "\r\n");
        dueTaken("A::\r\n" + LENGTH + "\r\n");
        dueTaken("Content-Length:2\r\n\r\n");
        dueTaken("Content-Length:     2\r\n\r\n");
        for (int b : new int[] {0, 9, 10, 11, 12, 31, 127, 128, 160, 255}) {
            dueBroken(with("A:", b, ""));
            dueBroken(with("A: v", b, ""));
            dueBroken(with("Content-Length: ", b, ""));
        }
    }

    /** "13, 10; ... then 13, 10" */
    private static void lineEnds() {
        dueBroken("A:v\n");
        for (char b : "\r A:\t".toCharArray()) {
            dueBroken("A:v\r" + b);
            dueBroken("Content-Length: 2\r" + b);
            dueBroken(LENGTH + "\r" + b);
        }
        dueBroken(LENGTH + "\n");
        dueBroken(LENGTH + " ");
    }

    /** "one of them of the name Content-Length (capitals like small letters)" */
    private static void lengthNames() {
        for (String name : new String[] {"content-length", "CONTENT-LENGTH", "cONTENT-lENGTH", "Content-Length"}) {
            dueTaken(name + ": 2\r\n\r\n");
            dueBroken(name + ": x");
        }
        for (String name : new String[] {"Content-Lengt", "Content-Lengths", "ontent-Length", "ContentLength", "Content--Length", "-Content-Length",
            "Content-Lengtg", "Xontent-Length", "Content-Length-"}) {
            dueTaken(name + ": 3x\r\n" + LENGTH + "\r\n");
            dueBroken(name + ": 2\r\n\r");
        }
    }

    /** "its value 1 to 4 digits and nothing else" */
    private static void lengthDigits() {
        for (String digits : new String[] {"2", "02", "002", "0002"}) {
            dueTaken("Content-Length: " + digits + "\r\n\r\n");
        }
        dueBroken("Content-Length:\r");
        dueBroken("Content-Length: \r");
        dueBroken("Content-Length: 00002");
        dueBroken("Content-Length: 00000");
        for (char b : "/: -+.ax".toCharArray()) {
            if (b != ' ') {
                dueBroken("Content-Length: " + b);
            }
            dueBroken("Content-Length: 2" + b);
        }
        dueBroken("Content-Length: 2 ");
    }

    private static void dueLength(int length) {
        Client client = new Client();
        String headers = "Content-Length: " + length + "\r\n\r\n";
        client.give(headers + Client.repeat(" ", length - 1));
        Client.due("messages of one byte less than " + length, client.server.state(2), 0);
        Client.due("kept", client.server.state(1), headers.length() + length - 1);
        client.give("1");
        Client.due("messages of " + length, client.server.state(2), 1);
        Client.due("kept", client.server.state(1), 0);
        client.dueAnswers("a body of " + length, NO_REQUEST);
    }

    /** "a number of at most 3,000 ... then as many bytes" */
    private static void lengthNumbers() {
        dueLength(1);
        dueLength(9);
        dueLength(10);
        dueLength(2999);
        dueLength(3000);
        dueBroken("Content-Length: 3001");
        dueBroken("Content-Length: 3010");
        dueBroken("Content-Length: 3100");
        dueBroken("Content-Length: 4000");
        dueBroken("Content-Length: 9999");
        for (String zero : new String[] {"0", "00", "000", "0000"}) {
            Client client = new Client();
            client.give("Content-Length: " + zero + "\r\n\r");
            Client.due("messages ahead of the end of " + zero, client.server.state(2), 0);
            client.give("\n");
            Client.due("messages of " + zero, client.server.state(2), 1);
            client.say(INITIALIZE);
            client.dueAnswers("a body of " + zero, NOT_JSON, CAPABLE);
        }
    }

    /** "Of several Content-Length the last one counts." */
    private static void lastLengthCounts() {
        dueTaken("Content-Length: 3000\r\n" + LENGTH + "\r\n");
        dueTaken("Content-Length: 0\r\ncontent-length: 2\r\n\r\n");
        dueTaken("Content-Length: 1\r\nContent-Length: 3\r\nA: 4\r\n" + LENGTH + "B: 5\r\n\r\n");
        dueBroken("Content-Length: 2\r\nContent-Length: \r");
        dueBroken("Content-Length: 2\r\nContent-Length: 3001");
    }

    /** "also the 13 of the empty line, when there was no Content-Length" */
    private static void noLength() {
        dueBroken("\r");
        dueBroken("A: 2\r\n\r");
        dueBroken("Content: 2\r\nLength: 2\r\n\r");
        Client client = new Client();
        client.give(LENGTH + "\r\n{}\r");
        Client.due("the frame ahead had one, this one has none", client.server.state(0), 1);
        Client.due("messages", client.server.state(2), 1);
    }

    private static String headersOf(int bytes) {
        return "A:" + Client.repeat("v", bytes - 2 - 2 - LENGTH.length() - 2) + "\r\n" + LENGTH + "\r\n";
    }

    /** "the 201st byte of the headers of one frame" */
    private static void headerBytes() {
        dueTaken(headersOf(199));
        dueTaken(headersOf(200));
        dueTaken(headersOf(200).replace("A:v", "A: "));
        dueBroken("A:" + Client.repeat("v", 199));
        dueBroken(Client.repeat("a", 201));
        dueBroken(Client.repeat("A:\r\n", 50) + "B");
        dueBroken("A:" + Client.repeat(" ", 199));
        Client client = new Client();
        client.give(headersOf(200) + "{}" + headersOf(200) + "{}");
        Client.due("each frame has its own", client.server.state(2), 2);
        Client.due("broken", client.server.state(0), 0);
    }

    /** "that byte and all behind it, now and later, are ignored; nothing is answered any more" */
    private static void ignoredForEver() {
        Client client = new Client();
        client.say("{}");
        client.give("!" + LENGTH + "\r\n{}");
        Client.due("broken", client.server.state(0), 1);
        Client.due("the output stays", client.server.state(10), 96);
        for (int i = 0; i < 3; i++) {
            Client.due("give later", client.give(LENGTH + "\r\n{}"), 96);
            Client.due("messages", client.server.state(2), 1);
            Client.due("kept", client.server.state(1), 0);
        }
        client.say("{\"jsonrpc\":\"2.0\",\"method\":\"exit\"}").say(INITIALIZE);
        Client.due("messages", client.server.state(2), 1);
        client.dueAnswers("what was written ahead of it can still be read", NO_REQUEST);
        Client.due("taken", client.server.state(10), 0);
        client.say(INITIALIZE);
        Client.due("nothing behind it", client.server.state(10), 0);
    }

    /** "Whole frames ahead of it were taken." */
    private static void wholeFramesAhead() {
        Client client = new Client();
        client.give(Client.joined(Client.framed(Client.bytes(INITIALIZE)), Client.bytes(LENGTH + "\r\n{}!" + LENGTH + "\r\n{}")));
        Client.due("messages", client.server.state(2), 2);
        client.dueAnswers("those ahead", CAPABLE, NO_REQUEST);
        client = new Client();
        client.give(LENGTH + "\r\n{!" + LENGTH + "\r\n{}");
        Client.due("within a body no byte is wrong", client.server.state(0), 0);
        Client.due("messages", client.server.state(2), 2);
        client.dueAnswers("the first is no json", NOT_JSON, NO_REQUEST);
    }

    /** "Its documents and what is due go on being worked at, but no byte is written." */
    private static void workOfABrokenServer() {
        Client client = new Client().initialized().open("a", 1, "qed. x.").open("b", 2, "y");
        client.askGoals("1", "a", 0, 7).askStatement("2", "b", "y");
        client.give("\n");
        Client.due("broken", client.server.state(0), 1);
        Client.due("documents", client.server.state(3), 2);
        Client.due("waiting", client.server.state(4), 2);
        Client.due("steps", client.server.work(1000), 9);
        Client.due("checked of a", client.server.document(0, 3), 2);
        Client.due("checked of b", client.server.document(1, 3), 1);
        Client.due("fault", client.server.sentence(0, 0, 3), 4);
        Client.due("waiting", client.server.state(4), 0);
        Client.due("in the cache", client.server.state(5), 3);
        Client.due("output", client.server.state(10), 0);
        Client.due("lost", client.server.state(8), 0);
        client.close("a");
        Client.due("documents stay", client.server.state(3), 2);
    }

    /** Asks for an answer of so many bytes, 94 to 190 (but not 122): the longer its id, the longer it is. */
    private static void sayFor(Client client, int bytes) {
        int id = bytes < 122 ? bytes - 94 : bytes - 95;
        // A control sign is written in six bytes, and an id has at most 20 units.
        int signs = Math.max(0, (id - 16) / 5);
        client.say("{\"id\":\"" + Client.repeat("\\n", signs) + Client.repeat("a", id - 6 * signs) + "\"}");
    }

    /** Fills an empty output up to so many bytes. */
    private static Client filled(Client client, int bytes) {
        int rest = bytes;
        int times = (rest - 190) / 215;
        client.sayTimes("{\"id\":\"" + Client.repeat("\\n", 20) + "\"}", times);
        Client.due("bytes of long answers", client.server.state(10), 215 * times);
        rest -= 215 * times;
        if (rest > 380) {
            sayFor(client, 94);
            rest -= 94;
        }
        int first = Math.min(rest - 94, 190);
        if (first == 122 || rest - first == 122) {
            first--;
        }
        sayFor(client, first);
        sayFor(client, rest - first);
        return client;
    }

    private static Client filledOutput(int bytes) {
        return filled(new Client(), bytes);
    }

    /** "what would make the output longer than 20,000 bytes is not written (all of that frame), and it is told as LOST" */
    private static void fullOutput() {
        Client client = filledOutput(20000);
        Client.due("output", client.server.state(10), 20000);
        Client.due("lost", client.server.state(8), 0);
        Client.due("last byte", client.server.out(19999), '}');
        Client.due("behind it", client.server.out(20000), -1);
        client.say("{}");
        Client.due("output", client.server.state(10), 20000);
        Client.due("lost", client.server.state(8), 1);
        client = filledOutput(20001);
        Client.due("output without the frame that would make it 20,001", client.server.state(10) < 20000 ? 1 : 0, 1);
        Client.due("lost", client.server.state(8), 1);
    }

    private static void lostFrames() {
        Client client = filledOutput(19900);
        Client.due("output", client.server.state(10), 19900);
        client.say("{\"id\":\"1234567\"}");
        Client.due("101 bytes more", client.server.state(10), 19900);
        Client.due("lost", client.server.state(8), 1);
        Client.due("no part of it", client.server.out(19900), -1);
        client.say("{\"id\":\"123456\"}");
        Client.due("100 bytes more", client.server.state(10), 20000);
        Client.due("lost", client.server.state(8), 1);
        client.sayTimes("{}", 3);
        Client.due("lost", client.server.state(8), 4);
        Client.due("take", client.server.take(), 20000);
        Client.due("lost ones do not come again", client.server.state(10), 0);
        client.say("{}");
        client.dueAnswers("there is room again", NO_REQUEST);
        Client.due("lost", client.server.state(8), 4);
    }

    private static void dueLast(Client client, int frame, boolean isLost, Runnable last) {
        int before = client.server.state(10);
        last.run();
        Client.due("output behind a frame of " + frame, client.server.state(10), isLost ? before : before + frame);
        Client.due("lost of a frame of " + frame, client.server.state(8), isLost ? 1 : 0);
    }

    /** "the number of bytes": a frame is longer by one more when its number has a digit more. */
    private static void lengthsOfFrames() {
        for (int frame : new int[] {121, 123}) {
            for (int over = 0; over <= 1; over++) {
                Client client = filledOutput(20000 - frame + over);
                dueLast(client, frame, over == 1, () -> sayFor(client, frame));
            }
        }
        String[] faults = new String[8];
        for (int k = 0; k < 8; k++) {
            faults[k] = Client.diagnostic(0, 3 * k, 0, 3 * k + 2, "syntax");
        }
        for (int body = 999; body <= 1000; body++) {
            String uri = Client.repeat("u", body - Client.diagnostics("", 2, faults).length());
            int frame = body == 999 ? 999 + 23 : 1000 + 24;
            for (int over = 0; over <= 1; over++) {
                Client client = new Client().initialized().open(uri, 1, Client.repeat("x. ", 8));
                client.server.work(1000);
                client.server.take();
                filled(client, 20000 - frame + over);
                // All sentences are kept, so that the diagnostics come at once.
                dueLast(client, frame, over == 1, () -> client.change(uri, 2, Client.edit(0, 99, 0, 99, " ")));
            }
        }
    }

    /** What comes by work is lost like what comes by give; a shorter frame behind it may have room. */
    private static void lostByWork() {
        Client client = new Client().initialized().open("a", 1, "x.");
        client.askGoals("1", "a", 0, 2);
        int answer = 22 + Client.result("1", "null").length();
        filled(client, 20000 - answer);
        client.server.work(1000);
        Client.due("output with the answer alone", client.server.state(10), 20000);
        Client.due("the diagnostics are lost", client.server.state(8), 1);
        Client.due("checked", client.server.document(0, 3), 1);
        Client.due("waiting", client.server.state(4), 0);
        client.askGoals("2", "a", 0, 2).close("a");
        Client.due("an answer and diagnostics more", client.server.state(8), 3);
        client.server.take();
        client.open("a", 1, "");
        client.dueAnswers("there is room again", Client.diagnostics("a", 1));
    }

    /** "(of a BROKEN server none is)" */
    private static void lostByABrokenServer() {
        Client client = filledOutput(20000);
        client.say("{}").give("!");
        client.say("{}").say("{}");
        Client.due("lost", client.server.state(8), 1);
        Client.due("output", client.server.state(10), 20000);
        client = new Client().initialized().open("a", 1, "x.");
        client.sayTimes("{\"id\":\"" + Client.repeat("\\n", 20) + "\"}", 92);
        client.askGoals("1", "a", 0, 2);
        client.say("{\"jsonrpc\":\"2.0\",\"method\":\"exit\"}");
        client.server.work(100);
        Client.due("checked", client.server.document(0, 3), 1);
        Client.due("lost", client.server.state(8), 0);
    }
}
