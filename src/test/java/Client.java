import java.nio.charset.StandardCharsets;
import java.util.ArrayList;
import java.util.Arrays;
import java.util.List;

/** What the tests share: a server with ways to talk to it, and the count of answers that were not due. */
final class Client {
    private static int wrong = 0;

    final Server server = new Server();

    /** Ends the test with exit code 1 if an answer was not the one that is due. */
    static void end() {
        if (wrong > 0) {
            System.out.println(wrong + " answers were not as due");
            System.exit(1);
        }
    }

    static void due(String call, long got, long want) {
        if (got != want) {
            wrong++;
            System.out.println(call + " answered " + got + ", due is " + want);
        }
    }

    static void due(String call, String got, String want) {
        if (!got.equals(want)) {
            wrong++;
            System.out.println(call + " answered\n  " + got + "\ndue is\n  " + want);
        }
    }

    static byte[] bytes(String text) {
        return text.getBytes(StandardCharsets.UTF_8);
    }

    static byte[] bytes(int... values) {
        byte[] row = new byte[values.length];
        for (int i = 0; i < values.length; i++) {
            row[i] = (byte) values[i];
        }
        return row;
    }

    static byte[] joined(byte[]... parts) {
        int size = 0;
        for (byte[] part : parts) {
            size += part.length;
        }
        byte[] row = new byte[size];
        int at = 0;
        for (byte[] part : parts) {
            System.arraycopy(part, 0, row, at, part.length);
            at += part.length;
        }
        return row;
    }

    static String repeat(String text, int times) {
        StringBuilder row = new StringBuilder();
        for (int i = 0; i < times; i++) {
            row.append(text);
        }
        return row.toString();
    }

    /** Bytes on the tape, filled up with zeros to the next twenty. */
    void feed(byte[] bytes) {
        for (int i = 0; i < bytes.length; i += 20) {
            int[] five = new int[5];
            for (int j = 0; j < 20; j++) {
                int b = i + j < bytes.length ? bytes[i + j] & 255 : 0;
                five[j / 4] = five[j / 4] << 8 | b;
            }
            server.feed(five[0], five[1], five[2], five[3], five[4]);
        }
    }

    int give(byte[] bytes) {
        feed(bytes);
        return server.give(bytes.length);
    }

    int give(String text) {
        return give(bytes(text));
    }

    static byte[] framed(byte[] body) {
        return joined(bytes("Content-Length: " + body.length + "\r\n\r\n"), body);
    }

    Client say(String json) {
        give(framed(bytes(json)));
        return this;
    }

    Client say(byte[] body) {
        give(framed(body));
        return this;
    }

    /** The same message so many times, as many at once as the tape holds. */
    Client sayTimes(String json, int times) {
        byte[] frame = framed(bytes(json));
        int atOnce = 4000 / frame.length;
        for (int said = 0; said < times; said += atOnce) {
            byte[][] frames = new byte[Math.min(atOnce, times - said)][];
            Arrays.fill(frames, frame);
            give(joined(frames));
        }
        return this;
    }

    Client initialized() {
        say("{\"jsonrpc\":\"2.0\",\"id\":0,\"method\":\"initialize\"}");
        server.take();
        return this;
    }

    Client notify(String method, String params) {
        return say("{\"jsonrpc\":\"2.0\",\"method\":\"" + method + "\",\"params\":" + params + "}");
    }

    Client request(String id, String method, String params) {
        return say("{\"jsonrpc\":\"2.0\",\"id\":" + id + ",\"method\":\"" + method + "\",\"params\":" + params + "}");
    }

    static String quoted(String text) {
        StringBuilder row = new StringBuilder("\"");
        for (int i = 0; i < text.length(); i++) {
            char c = text.charAt(i);
            if (c == '"' || c == '\\') {
                row.append('\\').append(c);
            } else if (c < 32 || c > 126) {
                row.append(String.format("\\u%04x", (int) c));
            } else {
                row.append(c);
            }
        }
        return row.append('"').toString();
    }

    Client open(String uri, int version, String text) {
        return notify("textDocument/didOpen", "{\"textDocument\":{\"uri\":" + quoted(uri) + ",\"version\":" + version
                + ",\"text\":" + quoted(text) + "}}");
    }

    Client close(String uri) {
        return notify("textDocument/didClose", "{\"textDocument\":{\"uri\":" + quoted(uri) + "}}");
    }

    Client change(String uri, int version, String... changes) {
        return notify("textDocument/didChange", "{\"textDocument\":{\"uri\":" + quoted(uri) + ",\"version\":" + version
                + "},\"contentChanges\":[" + String.join(",", changes) + "]}");
    }

    static String whole(String text) {
        return "{\"text\":" + quoted(text) + "}";
    }

    static String edit(int line, int character, int endLine, int endCharacter, String text) {
        return "{\"range\":{\"start\":{\"line\":" + line + ",\"character\":" + character + "},\"end\":{\"line\":" + endLine
                + ",\"character\":" + endCharacter + "}},\"text\":" + quoted(text) + "}";
    }

    Client askGoals(String id, String uri, int line, int character) {
        return request(id, "proof/goals", "{\"textDocument\":{\"uri\":" + quoted(uri) + "},\"position\":{\"line\":" + line
                + ",\"character\":" + character + "}}");
    }

    Client askStatement(String id, String uri, String name) {
        return request(id, "proof/statement", "{\"textDocument\":{\"uri\":" + quoted(uri) + "},\"name\":" + quoted(name) + "}");
    }

    Client cancel(String id) {
        return notify("$/cancelRequest", "{\"id\":" + id + "}");
    }

    byte[] output() {
        byte[] row = new byte[server.state(10)];
        for (int i = 0; i < row.length; i++) {
            row[i] = (byte) server.out(i);
        }
        return row;
    }

    /** The bodies of the frames in the output, which is empty then; a frame that is not as it must be is told. */
    List<String> answers() {
        String text = new String(output(), StandardCharsets.UTF_8);
        byte[] all = output();
        server.take();
        List<String> bodies = new ArrayList<>();
        int at = 0;
        while (at < all.length) {
            String rest = new String(all, at, all.length - at, StandardCharsets.ISO_8859_1);
            int end = rest.indexOf("\r\n\r\n");
            if (!rest.startsWith("Content-Length: ") || end < 0) {
                due("frames", text, "frames");
                return bodies;
            }
            int length = Integer.parseInt(rest.substring(16, end));
            bodies.add(new String(all, at + end + 4, length, StandardCharsets.UTF_8));
            at += end + 4 + length;
        }
        return bodies;
    }

    void dueAnswers(String call, String... want) {
        due(call, String.join("\n  ", answers()), String.join("\n  ", want));
    }

    static String result(String id, String result) {
        return "{\"jsonrpc\":\"2.0\",\"id\":" + id + ",\"result\":" + result + "}";
    }

    static String error(String id, int code, String message) {
        return "{\"jsonrpc\":\"2.0\",\"id\":" + id + ",\"error\":{\"code\":" + code + ",\"message\":\"" + message + "\"}}";
    }

    static String diagnostics(String uri, int version, String... list) {
        return "{\"jsonrpc\":\"2.0\",\"method\":\"textDocument/publishDiagnostics\",\"params\":{\"uri\":" + quoted(uri)
                + ",\"version\":" + version + ",\"diagnostics\":[" + String.join(",", list) + "]}}";
    }

    static String diagnostic(int line, int character, int endLine, int endCharacter, String message) {
        return "{\"range\":{\"start\":{\"line\":" + line + ",\"character\":" + character + "},\"end\":{\"line\":" + endLine
                + ",\"character\":" + endCharacter + "}},\"severity\":1,\"message\":\"" + message + "\"}";
    }

    /** The text of an open document. */
    String text(int d) {
        StringBuilder row = new StringBuilder();
        for (int i = 0; server.unit(d, i) >= 0; i++) {
            row.append((char) server.unit(d, i));
        }
        return row.toString();
    }

    /** One part of all sentences of an open document, with blanks between. */
    String sentences(int d, int what) {
        StringBuilder row = new StringBuilder();
        for (int k = 0; server.sentence(d, k, 0) >= 0; k++) {
            row.append(k > 0 ? " " : "").append(server.sentence(d, k, what));
        }
        return row.toString();
    }

    int batch(String text) {
        return batch(bytes(text));
    }

    int batch(byte[] bytes) {
        feed(bytes);
        return server.batch(bytes.length);
    }

    /** One part of the verdict of all sentences of the latest batch, with blanks between. */
    String verdicts(int what) {
        StringBuilder row = new StringBuilder();
        for (int k = 0; server.verdict(k, 0) >= 0; k++) {
            row.append(k > 0 ? " " : "").append(server.verdict(k, what));
        }
        return row.toString();
    }

    String goals(int k) {
        StringBuilder row = new StringBuilder();
        for (int i = 0; server.goals(k, i) >= 0; i++) {
            row.append((char) server.goals(k, i));
        }
        return row.toString();
    }

    /** A server that has checked a text as its only document. */
    static Client checked(String text) {
        Client client = new Client().initialized().open("a", 1, text);
        client.server.work(10000);
        client.server.take();
        return client;
    }

    /** The faults of a text, as a batch and as a document. */
    static void dueFaults(String text, String want) {
        Client client = new Client();
        client.batch(text);
        due("faults of " + text, client.verdicts(2), want);
        due("faults of the document " + text, checked(text).sentences(0, 3), want);
    }

    /** What proof/goals answers behind the last sentence of a text, as a batch and as a document. */
    static void dueGoals(String text, String want) {
        Client client = new Client();
        int count = client.batch(text);
        due("goals of " + text, client.goals(count - 1), want);
        client = checked(text).askGoals("1", "a", 0, text.length());
        client.dueAnswers("goals of the document " + text, result("1", want));
    }
}
