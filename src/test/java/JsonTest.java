/** Term 2: JSON, messages and ids. */
public final class JsonTest {
    private static final String NOT_JSON = Client.error("null", -32700, "not json");
    private static final String NO_REQUEST = Client.error("null", -32600, "no request");

    public static void main(String[] args) {
        texts();
        bytes();
        messages();
        ids();
        lastMembers();
        Client.end();
    }

    private static void dueJson(String text) {
        Client client = new Client().say(text);
        client.dueAnswers("json " + text, NO_REQUEST);
    }

    private static void dueNotJson(String text) {
        Client client = new Client().say(text);
        client.dueAnswers("no json " + text, NOT_JSON);
    }

    private static void texts() {
        String[] fine = {"1", "-0", "0.5", "1e400", "1E+2", "1.25e-3", "-1.0", "99999999999999999999", "true", "false", "null",
            "\"\"", " \t\r\n[ ] ", "[1,2 , 3]", "{}", "{ \"a\" : 1 , \"a\":{}}", "\"\\\"\\\\\\/\\b\\f\\n\\r\\t\\u00e9\\uD83D\\uDE00\"",
            "\"\u007f\u00e9\u20ac\ud83d\ude00\"", "[[[[[[[[[[1]]]]]]]]]]", "[{\"a\":[{}]},[[]]]", "[" + Client.repeat("1,", 1498) + "1]",
            "{" + Client.repeat("\"\":1,", 598) + "\"\":1}", "\"\\uABCD\\uabcd\\uEFef\"", "\"" + Client.repeat("a", 2998) + "\""};
        for (String text : fine) {
            dueJson(text);
        }
        String[] wrong = {"", " ", "01", "-", "+1", "1.", ".5", "1e", "1e+", "-01", "0x1", "tru", "nulll", "True", "[1,]", "[,1]", "[1 2]",
            "[", "]", "{", "{\"a\"}", "{\"a\":}", "{\"a\":1,}", "{a:1}", "{1:1}", "\"", "\"\\x\"", "\"\\u12\"", "\"\\u12g4\"",
            "\"\\ud83d\"", "\"\\ude00\"", "\"\\ud83dx\"", "\"\\ud83d\\u0041\"", "\"\\ude00\\ud83d\"", "\"\\ud83d\\ud83d\\ude00\"",
            "\"a\nb\"", "\"\t\"", "{}]", "1 1", "[[[[[[[[[[[1]]]]]]]]]]]", "[1}", "{\"a\":1]", "'a'", "\u00a01", "\ufeff1", "//", "\"\\u00e\""};
        for (String text : wrong) {
            dueNotJson(text);
        }
    }

    private static void dueBytes(boolean isJson, int... inString) {
        byte[] quote = Client.bytes("\"");
        Client client = new Client().say(Client.joined(quote, Client.bytes(inString), quote));
        client.dueAnswers("bytes " + java.util.Arrays.toString(inString), isJson ? NO_REQUEST : NOT_JSON);
    }

    private static void bytes() {
        dueBytes(true, 0xC2, 0x80);
        dueBytes(true, 0xE0, 0xA0, 0x80);
        dueBytes(true, 0xED, 0x9F, 0xBF);
        dueBytes(true, 0xEE, 0x80, 0x80);
        dueBytes(true, 0xEF, 0xBB, 0xBF);
        dueBytes(true, 0xF0, 0x90, 0x80, 0x80);
        dueBytes(true, 0xF4, 0x8F, 0xBF, 0xBF);
        dueBytes(false, 0x80);
        dueBytes(false, 0xC0, 0x80);
        dueBytes(false, 0xC1, 0xBF);
        dueBytes(false, 0xE0, 0x9F, 0xBF);
        dueBytes(false, 0xED, 0xA0, 0x80);
        dueBytes(false, 0xF0, 0x8F, 0xBF, 0xBF);
        dueBytes(false, 0xF4, 0x90, 0x80, 0x80);
        dueBytes(false, 0xF5, 0x80, 0x80, 0x80);
        dueBytes(false, 0xC2);
        dueBytes(false, 0xE2, 0x82);
        dueBytes(false, 0xFF);
        dueBytes(false, 0);
    }

    private static void dueAnswer(String message, String want) {
        Client client = new Client().say(message);
        client.dueAnswers(message, want);
    }

    private static void messages() {
        String tooEarly = Client.error("7", -32002, "not initialized");
        dueAnswer("{\"jsonrpc\":\"2.0\",\"id\":7,\"method\":\"x\"}", tooEarly);
        dueAnswer("{\"id\":7,\"method\":\"x\",\"params\":{},\"jsonrpc\":\"2.0\",\"more\":[]}", tooEarly);
        dueAnswer("{\"jsonrpc\":\"\\u0032.0\",\"\\u0069d\":7,\"method\":\"x\"}", tooEarly);
        String noRequest = Client.error("7", -32600, "no request");
        dueAnswer("{\"jsonrpc\":\"2.1\",\"id\":7,\"method\":\"x\"}", noRequest);
        dueAnswer("{\"jsonrpc\":2.0,\"id\":7,\"method\":\"x\"}", noRequest);
        dueAnswer("{\"id\":7,\"method\":\"x\"}", noRequest);
        dueAnswer("{\"jsonrpc\":\"2.0\",\"id\":7}", noRequest);
        dueAnswer("{\"jsonrpc\":\"2.0\",\"id\":7,\"result\":null}", noRequest);
        dueAnswer("{\"jsonrpc\":\"2.0\",\"id\":7,\"method\":1}", noRequest);
        dueAnswer("{\"jsonrpc\":\"2.0\",\"id\":7,\"method\":\"x\",\"params\":[]}", noRequest);
        dueAnswer("{\"jsonrpc\":\"2.0\",\"id\":7,\"method\":\"x\",\"params\":null}", noRequest);
        dueAnswer("{\"jsonrpc\":\"2.0\",\"method\":\"x\",\"params\":1}", NO_REQUEST);
        dueAnswer("{\"jsonrpc\":\"2.0\"}", NO_REQUEST);
        dueAnswer("[{\"jsonrpc\":\"2.0\",\"id\":7,\"method\":\"x\"}]", NO_REQUEST);
        Client client = new Client().say("{\"jsonrpc\":\"2.0\",\"method\":\"x\"}");
        client.dueAnswers("a notification");
    }

    private static void dueId(String id, String written) {
        dueAnswer("{\"jsonrpc\":\"2.0\",\"id\":" + id + ",\"method\":\"x\"}", Client.error(written, -32002, "not initialized"));
    }

    private static void ids() {
        dueId("0", "0");
        dueId("-0", "0");
        dueId("-5", "-5");
        dueId("2147483647", "2147483647");
        dueId("-2147483648", "-2147483648");
        dueId("\"\"", "\"\"");
        dueId("\"12345678901234567890\"", "\"12345678901234567890\"");
        dueId("\"\\u0022\\\\\\/\\n\\u001f\\u007f\"", "\"\\\"\\\\/\\u000a\\u001f\u007f\"");
        dueId("\"\\u00e9\\u20ac\\ud83d\\ude00\"", "\"\u00e9\u20ac\ud83d\ude00\"");
        dueId("\"\\u007f\\u0080\\u07ff\\u0800\\uffff\"", "\"\u007f\u0080\u07ff\u0800\uffff\"");
        dueId("\"\\ud800\\udc00\\udbff\\udfff\\uFACE\"", "\"\ud800\udc00\udbff\udfff\uface\"");
        dueId("\"\u007f\u0080\u07ff\u0800\uffff\"", "\"\u007f\u0080\u07ff\u0800\uffff\"");
        dueId("\"\ud800\udc00\udbff\udfff\"", "\"\ud800\udc00\udbff\udfff\"");
        String[] none = {"null", "true", "1.0", "1e0", "2147483648", "-2147483649", "[]", "{}", "\"123456789012345678901\"",
            "\"1234567890123456789\\ud83d\\ude00\""};
        for (String id : none) {
            dueAnswer("{\"jsonrpc\":\"2.0\",\"id\":" + id + ",\"method\":\"x\"}", NO_REQUEST);
        }
    }

    private static void lastMembers() {
        dueAnswer("{\"id\":1,\"jsonrpc\":\"1\",\"jsonrpc\":\"2.0\",\"method\":4,\"id\":2,\"method\":\"x\"}", Client.error("2", -32002, "not initialized"));
        dueAnswer("{\"jsonrpc\":\"2.0\",\"method\":\"x\",\"id\":2,\"id\":null}", NO_REQUEST);
        Client client = new Client().initialized();
        client.notify("textDocument/didOpen", "{\"textDocument\":1,\"textDocument\":{\"uri\":\"b\",\"uri\":\"a\",\"version\":3,\"text\":\"x.\"}}");
        Client.due("version", client.server.document(0, 0), 3);
        client.close("b");
        Client.due("open", client.server.state(3), 1);
        client.close("a");
        Client.due("open", client.server.state(3), 0);
    }
}
