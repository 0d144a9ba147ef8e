import java.util.Arrays;

/** The boundary cases of the document's term 2, JSON, one sentence of it after the other. */
public final class JsonEdgesTest {
    private static final String INITIALIZE = "{\"jsonrpc\":\"2.0\",\"id\":0,\"method\":\"initialize\"}";
    private static final String CAPABLE = Client.result("0", "{\"capabilities\":{\"textDocumentSync\":2}}");
    private static final String NO_REQUEST = Client.error("null", -32600, "no request");
    private static final String NOT_JSON = Client.error("null", -32700, "not json");

    public static void main(String[] args) {
        utf8();
        utf8Outside();
        blanks();
        depth();
        strings();
        surrogates();
        ints();
        numbers();
        members();
        versionsOfTheProtocol();
        ids();
        notifications();
        paramsOfMessages();
        errorsOfMessages();
        writtenStrings();
        Client.end();
    }

    /** How a message is answered by a server that is not initialized; the one behind it is answered as ever. */
    private static void due(String name, byte[] message, String... want) {
        Client client = new Client().say(message);
        client.dueAnswers(name, want);
        client.say(INITIALIZE);
        client.dueAnswers("behind " + name, CAPABLE);
        Client.due("messages with " + name, client.server.state(2), 2);
    }

    private static void dueJson(String text) {
        due("json " + text, Client.bytes(text), NO_REQUEST);
    }

    private static void dueNotJson(String text) {
        due("no json " + text, Client.bytes(text), NOT_JSON);
    }

    private static byte[] inString(int... bytes) {
        return Client.joined(Client.bytes("\"a"), Client.bytes(bytes), Client.bytes("b\""));
    }

    /** The units of a document that was opened with these bytes within its text. */
    private static void dueUnits(int[] bytes, int... units) {
        String name = "bytes " + Arrays.toString(bytes);
        due(name, inString(bytes), NO_REQUEST);
        Client client = new Client().initialized();
        client.say(Client.joined(Client.bytes("{\"jsonrpc\":\"2.0\",\"method\":\"textDocument/didOpen\",\"params\":{\"textDocument\":"
                + "{\"uri\":\"a\",\"version\":1,\"text\":\"<"), Client.bytes(bytes), Client.bytes(">\"}}}")));
        Client.due(name + ": how many", client.server.document(0, 1), units.length + 2);
        for (int i = 0; i < units.length; i++) {
            Client.due(name + ": unit " + i, client.server.unit(0, i + 1), units[i]);
        }
        Client.due(name + ": behind them", client.server.unit(0, units.length + 1), '>');
        Client.due(name + ": no more", client.server.unit(0, units.length + 2), -1);
    }

    private static void dueNoUnits(int... bytes) {
        due("bytes " + Arrays.toString(bytes), inString(bytes), NOT_JSON);
    }

    private static int[] row(int... values) {
        return values;
    }

    /** "in UTF-8 (... no sequence too long, above 1,114,111, or of a surrogate)", "a char above 65,535 two of them" */
    private static void utf8() {
        dueUnits(row(0x20), 0x20);
        dueUnits(row(0x7F), 0x7F);
        dueUnits(row(0xC2, 0x80), 0x80);
        dueUnits(row(0xDF, 0xBF), 0x7FF);
        dueUnits(row(0xE0, 0xA0, 0x80), 0x800);
        dueUnits(row(0xED, 0x9F, 0xBF), 0xD7FF);
        dueUnits(row(0xEE, 0x80, 0x80), 0xE000);
        dueUnits(row(0xEF, 0xBB, 0xBF), 0xFEFF);
        dueUnits(row(0xEF, 0xBF, 0xBF), 0xFFFF);
        dueUnits(row(0xF0, 0x90, 0x80, 0x80), 0xD800, 0xDC00);
        dueUnits(row(0xF0, 0x9F, 0x98, 0x80), 0xD83D, 0xDE00);
        dueUnits(row(0xF4, 0x8F, 0xBF, 0xBF), 0xDBFF, 0xDFFF);
        dueNoUnits(0xC0, 0x80);
        dueNoUnits(0xC0, 0xAF);
        dueNoUnits(0xC1, 0xBF);
        dueNoUnits(0xE0, 0x80, 0x80);
        dueNoUnits(0xE0, 0x9F, 0xBF);
        dueNoUnits(0xF0, 0x80, 0x80, 0x80);
        dueNoUnits(0xF0, 0x8F, 0xBF, 0xBF);
        dueNoUnits(0xF4, 0x90, 0x80, 0x80);
        dueNoUnits(0xF5, 0x80, 0x80, 0x80);
        dueNoUnits(0xF7, 0xBF, 0xBF, 0xBF);
        dueNoUnits(0xF8, 0x88, 0x80, 0x80, 0x80);
        dueNoUnits(0xFC, 0x84, 0x80, 0x80, 0x80, 0x80);
        dueNoUnits(0xFE);
        dueNoUnits(0xFF);
        dueNoUnits(0xED, 0xA0, 0x80);
        dueNoUnits(0xED, 0xAF, 0xBF);
        dueNoUnits(0xED, 0xB0, 0x80);
        dueNoUnits(0xED, 0xBF, 0xBF);
        dueNoUnits(0xED, 0xA0, 0x80, 0xED, 0xB0, 0x80);
        dueNoUnits(0x80);
        dueNoUnits(0xBF);
        dueNoUnits(0xC2);
        dueNoUnits(0xC2, 0x7F);
        dueNoUnits(0xC2, 0xC0);
        dueNoUnits(0xE2, 0x82);
        dueNoUnits(0xE2, 0x7F, 0x80);
        dueNoUnits(0xE2, 0x82, 0xC0);
        dueNoUnits(0xF1, 0x80, 0x80);
        dueNoUnits(0xF1, 0x80, 0x80, 0x7F);
        dueNoUnits(0xC2, 0x80, 0x80);
        due("a sequence that the text's end cuts", Client.joined(Client.bytes("\""), Client.bytes(0xE2, 0x82)), NOT_JSON);
        due("a sequence that needs the closing sign", Client.joined(Client.bytes("\""), Client.bytes(0xC2), Client.bytes("\"")), NOT_JSON);
    }

    /** "(without a mark at the beginning" */
    private static void utf8Outside() {
        due("a mark", Client.joined(Client.bytes(0xEF, 0xBB, 0xBF), Client.bytes("{}")), NOT_JSON);
        due("a mark ahead of a request", Client.joined(Client.bytes(0xEF, 0xBB, 0xBF), Client.bytes("{\"jsonrpc\":\"2.0\",\"id\":1,\"method\":\"x\"}")), NOT_JSON);
        due("a mark at the end", Client.joined(Client.bytes("{}"), Client.bytes(0xEF, 0xBB, 0xBF)), NOT_JSON);
        due("a byte behind all", Client.joined(Client.bytes("{}"), Client.bytes(0x80)), NOT_JSON);
    }

    /** "blanks are 32, 9, 10, 13" */
    private static void blanks() {
        for (String blank : new String[] {"", " ", "\t", "\n", "\r", "\r\n \t"}) {
            dueJson(blank + "{" + blank + "\"a\"" + blank + ":" + blank + "[" + blank + "1" + blank + "," + blank + "null" + blank + "]" + blank + ","
                    + blank + "\"b\"" + blank + ":" + blank + "{" + blank + "}" + blank + "}" + blank);
        }
        for (String other : new String[] {"\u000b", "\f", "\b", "\u0000", "\u001f", "\u00a0", "\u2028", "\u0085"}) {
            dueNotJson(other + "1");
            dueNotJson("1" + other);
            dueNotJson("[1," + other + "1]");
        }
        dueNotJson("");
        dueNotJson(" ");
        dueNotJson("- 1");
        dueNotJson("1 .5");
        dueNotJson("t rue");
    }

    private static String nested(int lists, String inner) {
        return Client.repeat("[", lists) + inner + Client.repeat("]", lists);
    }

    /** "at most 10 lists and objects within one another" */
    private static void depth() {
        dueJson(nested(10, ""));
        dueJson(nested(10, "1"));
        dueNotJson(nested(11, ""));
        dueNotJson(nested(11, "1"));
        dueJson(Client.repeat("{\"a\":", 9) + "{}" + Client.repeat("}", 9));
        dueNotJson(Client.repeat("{\"a\":", 10) + "{}" + Client.repeat("}", 10));
        dueJson(Client.repeat("[{\"a\":", 5) + "1" + Client.repeat("}]", 5));
        dueNotJson(Client.repeat("[{\"a\":", 5) + "[]" + Client.repeat("}]", 5));
        dueJson("[" + nested(9, "") + "," + nested(9, "") + "]");
        dueNotJson("[" + nested(9, "") + "," + nested(10, "") + "]");
        dueNotJson(nested(1500, ""));
        String request = "{\"jsonrpc\":\"2.0\",\"id\":1,\"method\":\"x\",\"params\":{\"a\":";
        due("a request with 10", Client.bytes(request + nested(8, "") + "}}"), Client.error("1", -32002, "not initialized"));
        due("a request with 11", Client.bytes(request + nested(9, "") + "}}"), NOT_JSON);
    }

    /** "JSON as RFC 8259 tells": strings. */
    private static void strings() {
        dueJson("\"\"");
        dueJson("\" \u007f\"");
        dueJson("\"\\\"\\\\\\/\\b\\f\\n\\r\\t\\u0000\\u001f\\uFFFF\\uffff\"");
        dueJson("\"" + Client.repeat("a", 2998) + "\"");
        for (String wrong : new String[] {"\"", "\"a", "\"\\\"", "\"\\", "\"\\x\"", "\"\\U0041\"", "\"\\'\"", "\"\\0\"", "\"\\u\"", "\"\\u1\"", "\"\\u12\"",
            "\"\\u123\"", "\"\\u123g\"", "\"\\u12:4\"", "\"\\u/234\"", "\"\\u123@\"", "\"\\u123`\"", "\"\\u123G\"", "\"\\u+123\"", "\"\u0000\"", "\"\u001f\"", "\"\n\"", "'a'", "\"a\"b\""}) {
            dueNotJson(wrong);
        }
        Client client = new Client().initialized();
        client.notify("textDocument/didOpen", "{\"textDocument\":{\"uri\":\"a\",\"version\":1,\"text\":\"\\\"\\\\\\/\\b\\f\\n\\r\\t\\u0000\\u001F\\uaBcD\"}}");
        int[] units = {'"', '\\', '/', 8, 12, 10, 13, 9, 0, 31, 0xABCD, -1};
        for (int i = 0; i < units.length; i++) {
            Client.due("unit " + i + " of escapes", client.server.unit(0, i), units[i]);
        }
    }

    /** "an escape of a surrogate must stand in a pair (the high one first, then at once the low one)" */
    private static void surrogates() {
        dueJson("\"\\ud800\\udc00\"");
        dueJson("\"\\uD800\\uDC00\"");
        dueJson("\"\\udbff\\udfff\"");
        dueJson("\"\\ud800\\udfff\\udbff\\udc00\"");
        dueJson("\"\\ud7ff\"");
        dueJson("\"\\ue000\"");
        dueJson("{\"\\ud83d\\ude00\":1}");
        for (String wrong : new String[] {"\\ud800", "\\udbff", "\\udc00", "\\udfff", "\\ud800x", "\\ud800 \\udc00", "\\ud800\\n", "\\ud800\\ud800", "\\ud800\\udbff",
            "\\ud800\\ue000", "\\udc00\\ud800", "\\ud800\\udc00\\udc00", "\\ud800\\ud800\\udc00", "\\ud800\\\\udc00", "\\ud800\\u", "\\ud800\\udc0", "\\ud800\u00e9"}) {
            dueNotJson("\"" + wrong + "\"");
            dueNotJson("{\"" + wrong + "\":1}");
        }
        Client client = new Client().initialized();
        client.notify("textDocument/didOpen", "{\"textDocument\":{\"uri\":\"a\",\"version\":1,\"text\":\"\\ud800\\udc00\\udbff\\udfff\\ue000\"}}");
        int[] units = {0xD800, 0xDC00, 0xDBFF, 0xDFFF, 0xE000, -1};
        for (int i = 0; i < units.length; i++) {
            Client.due("unit " + i + " of pairs", client.server.unit(0, i), units[i]);
        }
    }

    private static void dueVersion(String number, boolean isInt, int want) {
        Client client = new Client().initialized();
        client.notify("textDocument/didOpen", "{\"textDocument\":{\"uri\":\"a\",\"version\":" + number + ",\"text\":\"\"}}");
        Client.due("opened with version " + number, client.server.state(3), isInt ? 1 : 0);
        Client.due("version " + number, client.server.document(0, 0), isInt ? want : -1);
        Client.due("diagnostics of version " + number, client.answers().size(), isInt ? 1 : 0);
    }

    /** "An INT is a number without point and exponent from -2,147,483,648 to 2,147,483,647 (-0 is 0)." */
    private static void ints() {
        dueVersion("0", true, 0);
        dueVersion("-0", true, 0);
        dueVersion("-1", true, -1);
        dueVersion("2147483647", true, Integer.MAX_VALUE);
        dueVersion("2147483648", false, 0);
        dueVersion("2147483650", false, 0);
        dueVersion("-2147483648", true, Integer.MIN_VALUE);
        dueVersion("-2147483649", false, 0);
        dueVersion("4294967296", false, 0);
        dueVersion("4294967297", false, 0);
        dueVersion("9223372036854775808", false, 0);
        dueVersion("18446744073709551617", false, 0);
        dueVersion("-18446744073709551617", false, 0);
        dueVersion("1" + Client.repeat("0", 400), false, 0);
        dueVersion("1.0", false, 0);
        dueVersion("0.0", false, 0);
        dueVersion("-0.0", false, 0);
        dueVersion("1e0", false, 0);
        dueVersion("1E0", false, 0);
        dueVersion("0e0", false, 0);
        dueVersion("10e-1", false, 0);
        dueVersion("\"1\"", false, 0);
        dueVersion("true", false, 0);
        dueVersion("null", false, 0);
        dueVersion("[1]", false, 0);
    }

    /** "JSON as RFC 8259 tells": numbers, words, lists, objects; "All else is no JSON." */
    private static void numbers() {
        for (String fine : new String[] {"0", "-0", "-1", "10", "0.0", "1.50", "1e1", "1E1", "1e+1", "1e-1", "1e01", "0e0", "-0.0e-0", "true", "false", "null", "[]",
            "{}", "[true,false,null]", "{\"\":0}"}) {
            dueJson(fine);
            dueJson("[" + fine + "]");
        }
        for (String wrong : new String[] {"00", "01", "-", "-01", "--1", "+1", "1.", ".1", "-.1", "1..1", "1.e1", "1e", "1e+", "1e1.5", "1e1e1", "0x1", "1_0", "1a",
            "NaN", "Infinity", "True", "FALSE", "nul", "nulll", "truefalse", "[", "]", "[1", "[1,", "[,]", "[1,]", "[1,,1]", "[1:1]", "{", "}", "{\"a\"", "{\"a\":",
            "{\"a\":1", "{\"a\":1,", "{\"a\":1,}", "{,}", "{\"a\",1}", "{\"a\" 1}", "{a:1}", "{1:1}", "{null:1}", "{\"a\":1 \"b\":2}", "[}", "{]", "[1}", "{\"a\":1]",
            "1 1", "{}{}", "[]1", "\"a\" \"b\"", "/**/1", "1//", ",", ":"}) {
            dueNotJson(wrong);
        }
        dueJson("[" + Client.repeat("1,", 1498) + "1]");
        dueJson("[" + Client.repeat("[],", 998) + "[]]");
        dueJson("{" + Client.repeat("\"\":1,", 598) + "\"\":1}");
    }

    private static void dueRequest(String message, String id) {
        due(message, Client.bytes(message), Client.error(id, -32002, "not initialized"));
    }

    private static void dueNoRequest(String message, String id) {
        due(message, Client.bytes(message), Client.error(id, -32600, "no request"));
    }

    /** "Of several members with one name the last one counts." */
    private static void members() {
        dueRequest("{\"jsonrpc\":1,\"jsonrpc\":\"2.0\",\"id\":[],\"id\":1,\"id\":2,\"method\":{},\"method\":\"x\",\"params\":[],\"params\":{}}", "2");
        dueNoRequest("{\"jsonrpc\":\"2.0\",\"id\":1,\"method\":\"x\",\"jsonrpc\":\"1.0\"}", "1");
        dueNoRequest("{\"jsonrpc\":\"2.0\",\"id\":1,\"method\":\"x\",\"method\":1}", "1");
        dueNoRequest("{\"jsonrpc\":\"2.0\",\"id\":1,\"method\":\"x\",\"id\":null}", "null");
        dueNoRequest("{\"jsonrpc\":\"2.0\",\"id\":1,\"method\":\"x\",\"params\":{},\"params\":[]}", "1");
        dueRequest("{\"jsonrpc\":\"2.0\",\"id\":1,\"method\":\"x\",\"\\u0069d\":3}", "3");
        dueRequest("{\"jsonrpc\":\"2.0\",\"id\":1,\"method\":\"x\",\"Id\":3,\"id \":4,\"i\":5,\"idd\":6}", "1");
        Client client = new Client().initialized();
        client.notify("textDocument/didOpen", "{\"textDocument\":{\"uri\":\"b\",\"version\":2,\"text\":\"long\"},"
                + "\"textDocument\":{\"uri\":\"b\",\"uri\":\"a\",\"version\":\"x\",\"version\":7,\"text\":3,\"text\":\"\"}}");
        client.dueAnswers("the last ones of didOpen", Client.diagnostics("a", 7));
        client.notify("textDocument/didOpen", "{\"textDocument\":{\"uri\":\"b\",\"version\":2,\"text\":\"\"},\"textDocument\":1}");
        Client.due("a last one that is wrong", client.server.state(3), 1);
    }

    /** "a member jsonrpc that is the string 2.0, a member method that is a string" */
    private static void versionsOfTheProtocol() {
        dueRequest("{\"jsonrpc\":\"2.0\",\"id\":1,\"method\":\"\"}", "1");
        for (String wrong : new String[] {"\"2\"", "\"2.\"", "\"2.00\"", "\" 2.0\"", "\"2.1\"", "\"\"", "2.0", "2", "null", "[\"2.0\"]"}) {
            dueNoRequest("{\"jsonrpc\":" + wrong + ",\"id\":1,\"method\":\"x\"}", "1");
            dueNoRequest("{\"jsonrpc\":" + wrong + ",\"method\":\"x\"}", "null");
        }
        dueNoRequest("{\"id\":1,\"method\":\"x\"}", "1");
        for (String wrong : new String[] {"1", "null", "true", "[\"x\"]", "{}"}) {
            dueNoRequest("{\"jsonrpc\":\"2.0\",\"id\":1,\"method\":" + wrong + "}", "1");
            dueNoRequest("{\"jsonrpc\":\"2.0\",\"method\":" + wrong + "}", "null");
        }
    }

    private static void dueId(String id, String written) {
        dueRequest("{\"jsonrpc\":\"2.0\",\"id\":" + id + ",\"method\":\"x\"}", written);
        dueNoRequest("{\"id\":" + id + "}", written);
    }

    private static void dueNoId(String id) {
        dueNoRequest("{\"jsonrpc\":\"2.0\",\"id\":" + id + ",\"method\":\"x\"}", "null");
        dueNoRequest("{\"id\":" + id + "}", "null");
    }

    /** "a member id that is an int, or a string of at most 20 units" */
    private static void ids() {
        dueId("0", "0");
        dueId("-0", "0");
        dueId("-1", "-1");
        dueId("10", "10");
        dueId("2147483647", "2147483647");
        dueId("-2147483648", "-2147483648");
        dueNoId("2147483648");
        dueNoId("-2147483649");
        dueNoId("0.0");
        dueNoId("1e1");
        dueNoId("null");
        dueNoId("false");
        dueNoId("[]");
        dueNoId("{}");
        dueId("\"\"", "\"\"");
        dueId("\"" + Client.repeat("a", 20) + "\"", "\"" + Client.repeat("a", 20) + "\"");
        dueNoId("\"" + Client.repeat("a", 21) + "\"");
        dueId("\"" + Client.repeat("\u20ac", 20) + "\"", "\"" + Client.repeat("\u20ac", 20) + "\"");
        dueNoId("\"" + Client.repeat("\u20ac", 21) + "\"");
        dueId("\"" + Client.repeat("\\u0041", 20) + "\"", "\"" + Client.repeat("A", 20) + "\"");
        dueNoId("\"" + Client.repeat("\\u0041", 21) + "\"");
        dueId("\"" + Client.repeat("\ud83d\ude00", 10) + "\"", "\"" + Client.repeat("\ud83d\ude00", 10) + "\"");
        dueNoId("\"" + Client.repeat("\ud83d\ude00", 10) + "a\"");
        dueNoId("\"a" + Client.repeat("\ud83d\ude00", 10) + "\"");
    }

    /** "a NOTIFICATION when it has no id" */
    private static void notifications() {
        due("a notification", Client.bytes("{\"jsonrpc\":\"2.0\",\"method\":\"x\"}"));
        due("a notification with params", Client.bytes("{\"jsonrpc\":\"2.0\",\"method\":\"x\",\"params\":{}}"));
        due("an id elsewhere", Client.bytes("{\"jsonrpc\":\"2.0\",\"method\":\"x\",\"params\":{\"id\":1}}"));
        due("an id of null is one", Client.bytes("{\"jsonrpc\":\"2.0\",\"id\":null,\"method\":\"x\"}"), NO_REQUEST);
    }

    /** "params, if there are any, must be an object" */
    private static void paramsOfMessages() {
        dueRequest("{\"jsonrpc\":\"2.0\",\"id\":1,\"method\":\"x\",\"params\":{}}", "1");
        for (String wrong : new String[] {"[]", "[{}]", "null", "0", "\"\"", "true"}) {
            dueNoRequest("{\"jsonrpc\":\"2.0\",\"id\":1,\"method\":\"x\",\"params\":" + wrong + "}", "1");
            dueNoRequest("{\"jsonrpc\":\"2.0\",\"id\":1,\"method\":\"initialize\",\"params\":" + wrong + "}", "1");
            dueNoRequest("{\"jsonrpc\":\"2.0\",\"method\":\"exit\",\"params\":" + wrong + "}", "null");
        }
    }

    /** "What is no JSON is answered by ... -32700 under the id null; what is JSON, but neither of these, by -32600 under its id ..., else null." */
    private static void errorsOfMessages() {
        due("no json with an id", Client.bytes("{\"jsonrpc\":\"2.0\",\"id\":1,\"method\":\"x\""), NOT_JSON);
        due("no json behind a request", Client.bytes("{\"jsonrpc\":\"2.0\",\"id\":1,\"method\":\"x\"}}"), NOT_JSON);
        dueNoRequest("{\"jsonrpc\":\"2.0\",\"id\":1,\"result\":null}", "1");
        dueNoRequest("{\"jsonrpc\":\"2.0\",\"id\":\"a\",\"error\":{}}", "\"a\"");
        dueNoRequest("{}", "null");
        dueNoRequest("[{\"jsonrpc\":\"2.0\",\"id\":1,\"method\":\"x\"}]", "null");
        dueNoRequest("[]", "null");
        dueNoRequest("\"id\"", "null");
        Client client = new Client().initialized();
        client.say("[]").say("[").say("{\"id\":4}");
        client.dueAnswers("of a server that is initialized", NO_REQUEST, NOT_JSON, Client.error("4", -32600, "no request"));
        client.request("5", "shutdown", "{}");
        client.server.take();
        client.say("[]").say("[").say("{\"id\":4}");
        client.dueAnswers("behind shutdown", NO_REQUEST, NOT_JSON, Client.error("4", -32600, "no request"));
    }

    /** "STRINGS are written with " around: " and \ with a \ ahead, units below 32 as \, the letter u, and four digits (small letters), all else as UTF-8" */
    private static void writtenStrings() {
        dueId("\"\\\"\\\\\\/'\"", "\"\\\"\\\\/'\"");
        for (int u = 0; u < 32; u++) {
            dueId(String.format("\"\\u%04X\"", u), String.format("\"\\u%04x\"", u));
        }
        dueId("\"\\n\\r\\t\\b\\f\"", "\"\\u000a\\u000d\\u0009\\u0008\\u000c\"");
        for (int u : new int[] {0x20, 0x21, 0x23, 0x5B, 0x5D, 0x7E, 0x7F, 0x80, 0x7FF, 0x800, 0xFFF, 0x1000, 0xD7FF, 0xE000, 0xFEFF, 0xFFFD, 0xFFFF}) {
            dueId(String.format("\"\\u%04x\"", u), "\"" + (char) u + "\"");
        }
        for (int c : new int[] {0x10000, 0x1F600, 0xFFFFF, 0x100000, 0x10FFFF}) {
            String pair = new String(Character.toChars(c));
            dueId("\"" + pair + "\"", "\"" + pair + "\"");
            dueId(Client.quoted(pair), "\"" + pair + "\"");
        }
        Client client = new Client().initialized().open("\"\\\u0001\u001f \u007f\u00e9\ud83d\ude00", 1, "");
        client.dueAnswers("a uri", "{\"jsonrpc\":\"2.0\",\"method\":\"textDocument/publishDiagnostics\",\"params\":{\"uri\":\"\\\"\\\\\\u0001\\u001f \u007f\u00e9\ud83d\ude00\","
                + "\"version\":1,\"diagnostics\":[]}}");
    }
}
