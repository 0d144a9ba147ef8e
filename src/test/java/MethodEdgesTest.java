/** The boundary cases of the document's term 3, METHODS, one sentence of it after the other. */
public final class MethodEdgesTest {
    private static final String CAPABLE = "{\"capabilities\":{\"textDocumentSync\":2}}";
    private static final String[] REQUESTS = {"initialize", "shutdown", "proof/goals", "proof/statement"};
    private static final String[] NOTIFICATIONS = {"textDocument/didOpen", "textDocument/didChange", "textDocument/didClose", "$/cancelRequest", "exit"};
    private static final String[] OTHERS = {"", "x", "Initialize", "initialize ", "initializ", "proof/goal", "proof/goalss", "shutdown\\u0000", "Exit", "exits"};

    public static void main(String[] args) {
        beforeInitialize();
        initialize();
        behindShutdown();
        exit();
        otherWay();
        otherMethods();
        uris();
        texts();
        opened();
        fullOfDocuments();
        manyChanges();
        versions();
        rangeNumbers();
        lineIsNotThere();
        endAheadOfStart();
        tooLong();
        oneBehindTheOther();
        wrongParams();
        lines();
        characters();
        closing();
        goalsParams();
        statementParams();
        waitingPlaces();
        fullOfRequests();
        statements();
        cancelling();
        modified();
        sameIds();
        Client.end();
    }

    private static void dueError(Client client, String call, int code, String message) {
        client.dueAnswers(call, Client.error("1", code, message));
    }

    /** "Before a request initialize: every other request is answered by -32002, notifications are ignored (but exit)." */
    private static void beforeInitialize() {
        Client client = new Client();
        for (String[] methods : new String[][] {REQUESTS, NOTIFICATIONS, OTHERS}) {
            for (String method : methods) {
                if (!method.equals("initialize")) {
                    client.request("1", method, "{}");
                    dueError(client, method + " before initialize", -32002, "not initialized");
                }
            }
        }
        client.askGoals("1", "a", 0, 0);
        dueError(client, "a whole request before initialize", -32002, "not initialized");
        client.notify("initialize", "{}").open("a", 1, "x.").close("a").cancel("1").notify("x", "{}");
        client.dueAnswers("notifications before initialize");
        Client.due("open", client.server.state(3), 0);
        client.askGoals("1", "a", 0, 0);
        dueError(client, "initialize as a notification does nothing", -32002, "not initialized");
    }

    /** "initialize is answered by ...; a second one by -32600." */
    private static void initialize() {
        Client client = new Client().say("{\"jsonrpc\":\"2.0\",\"id\":1,\"method\":\"initialize\"}");
        client.dueAnswers("the first", Client.result("1", CAPABLE));
        client.request("1", "initialize", "{}");
        dueError(client, "the second", -32600, "no request");
        client.request("1", "initialize", "{\"x\":1}");
        dueError(client, "the third", -32600, "no request");
        client.open("a", 1, "");
        Client.due("it goes on", client.server.state(3), 1);
    }

    /** "shutdown: null; behind it every request is answered by -32600, notifications are ignored (but exit)." */
    private static void behindShutdown() {
        Client client = new Client().initialized().open("a", 1, "x.").open("b", 1, "");
        client.server.take();
        client.askGoals("7", "a", 0, 2);
        client.notify("shutdown", "{}");
        client.askGoals("1", "b", 0, 0);
        client.dueAnswers("shutdown as a notification does nothing", Client.result("1", "null"));
        client.say("{\"jsonrpc\":\"2.0\",\"id\":1,\"method\":\"shutdown\"}");
        client.dueAnswers("shutdown", Client.result("1", "null"));
        for (String[] methods : new String[][] {REQUESTS, NOTIFICATIONS, OTHERS}) {
            for (String method : methods) {
                client.request("1", method, "{}");
                dueError(client, method + " behind shutdown", -32600, "no request");
            }
        }
        client.askGoals("1", "b", 0, 0);
        dueError(client, "a whole request behind shutdown", -32600, "no request");
        client.open("c", 1, "").close("b").change("a", 2, Client.whole("")).cancel("7");
        client.dueAnswers("notifications behind shutdown");
        Client.due("open", client.server.state(3), 2);
        Client.due("version", client.server.document(0, 0), 1);
        Client.due("waiting", client.server.state(4), 1);
        client.server.work(100);
        client.dueAnswers("what is due", Client.diagnostics("a", 1, Client.diagnostic(0, 0, 0, 2, "syntax")), Client.result("7", "null"));
    }

    private static void dueExit(Client client, String when) {
        client.server.take();
        int messages = client.server.state(2);
        byte[] exit = Client.framed(Client.bytes("{\"jsonrpc\":\"2.0\",\"method\":\"exit\"}"));
        client.give(Client.joined(exit, Client.framed(Client.bytes("{}")), Client.bytes("Content")));
        Client.due(when + ": broken", client.server.state(0), 1);
        Client.due(when + ": kept", client.server.state(1), 0);
        Client.due(when + ": messages with exit", client.server.state(2), messages + 1);
        client.say("{}");
        Client.due(when + ": messages behind exit", client.server.state(2), messages + 1);
        Client.due(when + ": output", client.server.state(10), 0);
    }

    /** "exit (a notification, at any time): the server is BROKEN (bytes behind it are ignored)." */
    private static void exit() {
        dueExit(new Client(), "exit before initialize");
        dueExit(new Client().initialized(), "exit behind initialize");
        dueExit(new Client().initialized().request("1", "shutdown", "{}"), "exit behind shutdown");
        Client client = new Client().notify("exit", "{\"x\":[]}");
        Client.due("params do not matter", client.server.state(0), 1);
    }

    /** "What is told to be a request comes as a notification: ignored; a notification as a request: -32601, as another method." */
    private static void otherWay() {
        Client client = new Client().initialized().open("a", 1, "x.");
        client.notify("proof/goals", "{\"textDocument\":{\"uri\":\"a\"},\"position\":{\"line\":0,\"character\":2}}");
        client.notify("proof/statement", "{\"textDocument\":{\"uri\":\"a\"},\"name\":\"x\"}").notify("shutdown", "{}").notify("initialize", "{}");
        client.dueAnswers("requests as notifications");
        Client.due("waiting", client.server.state(4), 0);
        client.askGoals("1", "a", 0, 2);
        client.server.take();
        for (String method : NOTIFICATIONS) {
            client.request("1", method, "{\"textDocument\":{\"uri\":\"a\"},\"id\":1}");
            dueError(client, method + " as a request", -32601, "no method");
        }
        Client.due("open", client.server.state(3), 1);
        Client.due("waiting", client.server.state(4), 1);
        Client.due("broken", client.server.state(0), 0);
    }

    /** "A request of another method than these: -32601; a notification: ignored." */
    private static void otherMethods() {
        Client client = new Client().initialized();
        for (String method : OTHERS) {
            client.request("1", method, "{}");
            dueError(client, "a request " + method, -32601, "no method");
            client.notify(method, "{}");
            client.dueAnswers("a notification " + method);
        }
        client.open("a", 1, "x.").askGoals("1", "a", 0, 2);
        for (String method : new String[] {"x", "/cancelRequest", "$/cancel", "$/cancelrequest", "textDocument/didSave", "textDocument/did"}) {
            client.notify(method, "{\"id\":1,\"textDocument\":{\"uri\":\"a\",\"version\":2,\"text\":\"\"},\"contentChanges\":[{\"text\":\"\"}]}");
            client.dueAnswers("a notification " + method);
            Client.due("waiting", client.server.state(4), 1);
            Client.due("version", client.server.document(0, 0), 1);
        }
        Client.due("broken", client.server.state(0), 0);
    }

    private static void dueOpen(String uri, String text, boolean isOpen) {
        Client client = new Client().initialized().open(uri, 1, text);
        Client.due("open " + uri + " with " + text.length(), client.server.state(3), isOpen ? 1 : 0);
        Client.due("units", client.server.document(0, 1), isOpen ? text.length() : -1);
        client.open("x", 1, "");
        Client.due("another one behind it", client.server.state(3), isOpen ? 2 : 1);
    }

    /** "uri, a string of 1 to 40 units" */
    private static void uris() {
        dueOpen("", "", false);
        dueOpen("a", "", true);
        dueOpen(Client.repeat("a", 40), "", true);
        dueOpen(Client.repeat("a", 41), "", false);
        dueOpen(Client.repeat("\u20ac", 40), "", true);
        dueOpen(Client.repeat("\u20ac", 41), "", false);
        dueOpen(Client.repeat("\ud83d\ude00", 20), "", true);
        dueOpen(Client.repeat("\ud83d\ude00", 20) + "a", "", false);
    }

    /** "text, a string of at most 1,500 units" */
    private static void texts() {
        dueOpen("a", "", true);
        dueOpen("a", Client.repeat("a", 1499), true);
        dueOpen("a", Client.repeat("a", 1500), true);
        dueOpen("a", Client.repeat("a", 1501), false);
        Client client = new Client().initialized();
        String pairs = Client.repeat("\ud83d\ude00", 650);
        String ahead = "{\"textDocument\":{\"uri\":\"a\",\"version\":1,\"text\":\"";
        client.notify("textDocument/didOpen", ahead + pairs + Client.repeat("a", 201) + "\"}}");
        Client.due("650 pairs and 201", client.server.state(3), 0);
        client.notify("textDocument/didOpen", ahead + pairs + Client.repeat("a", 200) + "\"}}");
        Client.due("650 pairs and 200", client.server.document(0, 1), 1500);
    }

    /** "ignored when one with this uri is open" */
    private static void opened() {
        Client client = new Client().initialized().open("a", 5, "x.");
        client.open("a", 6, "");
        client.dueAnswers("a second time");
        Client.due("open", client.server.state(3), 1);
        Client.due("version", client.server.document(0, 0), 5);
        Client.due("text", client.text(0), "x.");
        client.open("A", 1, "").open("aa", 1, "");
        Client.due("others are open", client.server.state(3), 3);
        client.close("a").open("a", 4, "y");
        Client.due("closed and opened", client.server.document(2, 0), 4);
        Client.due("text", client.text(2), "y");
    }

    /** "or 3 are" */
    private static void fullOfDocuments() {
        Client client = new Client().initialized().open("a", 1, "").open("b", 2, "");
        Client.due("two", client.server.state(3), 2);
        client.open("c", 3, "");
        Client.due("three", client.server.state(3), 3);
        client.server.take();
        client.open("d", 4, "");
        client.dueAnswers("a fourth");
        Client.due("three still", client.server.state(3), 3);
        Client.due("no fourth", client.server.document(3, 0), -1);
        client.close("d");
        client.dueAnswers("it is not open");
        client.close("b").open("d", 4, "");
        Client.due("order", client.server.document(0, 0) * 100 + client.server.document(1, 0) * 10 + client.server.document(2, 0), 134);
    }

    private static Client dueChange(String text, String want, String... changes) {
        Client client = new Client().initialized().open("a", 1, text);
        client.change("a", 2, changes);
        boolean isMade = want != null;
        String name = "changes " + String.join(",", changes);
        Client.due(name + ": version", client.server.document(0, 0), isMade ? 2 : 1);
        Client.due(name + ": text", client.text(0), isMade ? want : text);
        client.change("a", 2, Client.whole("again"));
        Client.due(name + ": text behind a change of version 2", client.text(0), isMade ? want : "again");
        return client;
    }

    private static void dueNoChange(String text, String... changes) {
        dueChange(text, null, changes);
    }

    private static String[] appended(int count) {
        String[] changes = new String[count];
        for (int i = 0; i < count; i++) {
            changes[i] = Client.edit(0, i, 0, i, String.valueOf((char) ('1' + i)));
        }
        return changes;
    }

    /** "contentChanges, a list of 1 to 8 objects" */
    private static void manyChanges() {
        dueNoChange("x");
        dueChange("x", "1x", appended(1));
        dueChange("x", "1234567x", appended(7));
        dueChange("x", "12345678x", appended(8));
        dueNoChange("x", appended(9));
        dueNoChange("x", "1");
        dueNoChange("x", "\"y\"");
        dueNoChange("x", "null");
        dueNoChange("x", "[]");
        dueNoChange("x", Client.whole("y"), "[]");
    }

    /** "Ignored when it is not open, or the version is not above its one. ... Then the document has the version." */
    private static void versions() {
        Client client = new Client().initialized().open("a", 5, "x");
        client.change("b", 6, Client.whole("y")).change("a", 5, Client.whole("y")).change("a", 4, Client.whole("y"));
        client.change("a", -6, Client.whole("y")).change("a", Integer.MIN_VALUE, Client.whole("y"));
        Client.due("text", client.text(0), "x");
        Client.due("version", client.server.document(0, 0), 5);
        client.change("a", 6, Client.whole("y"));
        Client.due("text", client.text(0), "y");
        Client.due("version", client.server.document(0, 0), 6);
        client.change("a", Integer.MAX_VALUE, Client.whole("z"));
        Client.due("version", client.server.document(0, 0), Integer.MAX_VALUE);
        client.change("a", Integer.MAX_VALUE, Client.whole("y")).change("a", Integer.MIN_VALUE, Client.whole("y"));
        Client.due("no version is above it", client.text(0), "z");
        client = new Client().initialized().open("a", Integer.MIN_VALUE, "x");
        client.change("a", Integer.MIN_VALUE, Client.whole("y"));
        Client.due("text", client.text(0), "x");
        client.change("a", Integer.MIN_VALUE + 1, Client.whole("y"));
        Client.due("text", client.text(0), "y");
        client.change("a", Integer.MAX_VALUE, Client.whole("z"));
        Client.due("text", client.text(0), "z");
        client.close("a").change("a", 9, Client.whole("y"));
        Client.due("closed", client.server.state(3), 0);
    }

    /** "line and character, ints of 0 or more" */
    private static void rangeNumbers() {
        dueChange("ab", "Xab", Client.edit(0, 0, 0, 0, "X"));
        dueNoChange("ab", Client.edit(-1, 0, 0, 0, "X"));
        dueNoChange("ab", Client.edit(0, -1, 0, 0, "X"));
        dueNoChange("ab", Client.edit(0, 0, -1, 0, "X"));
        dueNoChange("ab", Client.edit(0, 0, 0, -1, "X"));
        dueNoChange("ab", Client.edit(Integer.MIN_VALUE, 0, 0, 0, "X"));
        dueNoChange("ab", Client.edit(0, Integer.MIN_VALUE, 0, 0, "X"));
        dueChange("ab", "abX", Client.edit(0, Integer.MAX_VALUE, 0, Integer.MAX_VALUE, "X"));
        dueNoChange("ab", Client.edit(Integer.MAX_VALUE, 0, Integer.MAX_VALUE, 0, "X"));
        String place = "{\"line\":0,\"character\":0}";
        for (String wrong : new String[] {"{\"line\":0.0,\"character\":0}", "{\"line\":0,\"character\":0e0}", "{\"line\":\"0\",\"character\":0}", "{\"line\":0}",
            "{\"character\":0}", "{}", "[0,0]", "null", "0", "{\"line\":2147483648,\"character\":0}", "{\"line\":0,\"character\":2147483648}"}) {
            dueNoChange("ab", "{\"range\":{\"start\":" + wrong + ",\"end\":" + place + "},\"text\":\"X\"}");
            dueNoChange("ab", "{\"range\":{\"start\":" + place + ",\"end\":" + wrong + "},\"text\":\"X\"}");
        }
        dueNoChange("ab", "{\"range\":{\"start\":" + place + "},\"text\":\"X\"}");
        dueNoChange("ab", "{\"range\":{\"end\":" + place + "},\"text\":\"X\"}");
        dueNoChange("ab", "{\"range\":{},\"text\":\"X\"}");
        dueNoChange("ab", "{\"range\":[" + place + "," + place + "],\"text\":\"X\"}");
    }

    /** "when a line is not there ... the whole notification is ignored" */
    private static void lineIsNotThere() {
        dueChange("", "X", Client.edit(0, 0, 0, 0, "X"));
        dueNoChange("", Client.edit(1, 0, 1, 0, "X"));
        dueChange("a\nb", "a\nXb", Client.edit(1, 0, 1, 0, "X"));
        dueNoChange("a\nb", Client.edit(2, 0, 2, 0, "X"));
        dueNoChange("a\nb", Client.edit(0, 0, 2, 0, "X"));
        dueChange("a\nb\n", "a\nb\nX", Client.edit(2, 0, 2, 0, "X"));
        dueNoChange("a\nb\n", Client.edit(3, 0, 3, 0, "X"));
        dueChange("\r\n", "\r\nX", Client.edit(1, 0, 1, 0, "X"));
        dueNoChange("\r\n", Client.edit(2, 0, 2, 0, "X"));
        dueChange("\n\r", "\n\rX", Client.edit(2, 0, 2, 0, "X"));
        dueNoChange("\n\r", Client.edit(3, 0, 3, 0, "X"));
        dueNoChange("a", Client.whole("b"), Client.edit(1, 0, 1, 0, "X"));
        dueNoChange("a\nb", Client.whole("b"), Client.edit(1, 0, 1, 0, "X"));
        dueChange("a", "b\nX", Client.whole("b\n"), Client.edit(1, 0, 1, 0, "X"));
    }

    /** "the place of the end is ahead of that of the start" */
    private static void endAheadOfStart() {
        dueChange("abc", "abXc", Client.edit(0, 2, 0, 2, "X"));
        dueNoChange("abc", Client.edit(0, 2, 0, 1, "X"));
        dueNoChange("a\nb", Client.edit(1, 0, 0, 1, "X"));
        dueNoChange("a\nb", Client.edit(1, 0, 0, 9, "X"));
        dueChange("abc", "abcX", Client.edit(0, 9, 0, 3, "X"));
        dueChange("abc", "abcX", Client.edit(0, 9, 0, 8, "X"));
        dueNoChange("abc", Client.edit(0, 9, 0, 2, "X"));
        dueNoChange("abc", Client.whole("x"), Client.edit(0, 1, 0, 0, "X"));
    }

    /** "or the text would be longer than 1,500 units (behind any of them)" */
    private static void tooLong() {
        String most = Client.repeat("a", 1499);
        Client client = new Client().initialized().open("a", 1, most);
        client.change("a", 2, Client.edit(0, 0, 0, 0, "bc"));
        Client.due("1,501 units", client.server.document(0, 1), 1499);
        client.change("a", 2, Client.edit(0, 0, 0, 1, "bc"));
        Client.due("1,500 units", client.server.document(0, 1), 1500);
        client.change("a", 3, Client.edit(0, 0, 0, 0, "b"));
        Client.due("version", client.server.document(0, 0), 2);
        client.change("a", 3, Client.edit(0, 1500, 0, 1500, "b"));
        Client.due("version", client.server.document(0, 0), 2);
        client.change("a", 3, Client.edit(0, 0, 0, 0, "b"), Client.edit(0, 0, 0, 2, ""));
        Client.due("too long behind the first, not behind the second", client.server.document(0, 0), 2);
        client.change("a", 3, Client.edit(0, 0, 0, 2, ""), Client.edit(0, 0, 0, 0, "de"));
        Client.due("never too long", client.server.document(0, 0), 3);
        Client.due("units", client.server.document(0, 1), 1500);
        Client.due("first unit", client.server.unit(0, 0), 'd');
        Client.due("last unit", client.server.unit(0, 1499), 'a');
        Client.due("no more", client.server.unit(0, 1500), -1);
        client = new Client().initialized().open("a", 1, "x");
        client.change("a", 2, Client.whole(Client.repeat("b", 1501)));
        Client.due("1,501 at once", client.text(0), "x");
        client.change("a", 2, Client.whole(Client.repeat("b", 1501)), Client.whole("y"));
        Client.due("1,501 and then one", client.text(0), "x");
        client.change("a", 2, Client.whole(Client.repeat("b", 1500)));
        Client.due("1,500 at once", client.server.document(0, 1), 1500);
    }

    /** "The changes are made one behind the other (without range: the text is the new one; else the text from start to end becomes it)" */
    private static void oneBehindTheOther() {
        dueChange("abc", "", Client.whole(""));
        dueChange("abc", "", Client.edit(0, 0, 0, 3, ""));
        dueChange("abc", "abc", Client.edit(0, 1, 0, 1, ""));
        dueChange("abc", "Z", Client.edit(0, 0, 0, 1, "X"), Client.whole("Z"));
        dueChange("abc", "YZ", Client.whole("Z"), Client.edit(0, 0, 0, 0, "Y"));
        dueChange("a\nb", "ab", Client.edit(0, 1, 1, 0, ""));
        dueChange("a\nb", "a\nc\nXb", Client.edit(0, 1, 0, 1, "\nc"), Client.edit(2, 0, 2, 0, "X"));
        dueChange("a\n\nb", "X", Client.edit(0, 0, 2, 1, "X"));
    }

    /** "Params that are not as said: ... a notification is ignored. (Members that are not told here don't matter.)" */
    private static void wrongParams() {
        dueNoChange("ab", "{}");
        dueNoChange("ab", "{\"text\":1}");
        dueNoChange("ab", "{\"text\":null}");
        dueNoChange("ab", "{\"text\":[\"x\"]}");
        dueNoChange("ab", Client.whole("x"), "{\"text\":1}");
        dueNoChange("ab", "{\"text\":1}", Client.whole("x"));
        dueChange("ab", "x", "{\"rangeLength\":-1,\"text\":\"x\",\"more\":[]}");
        Client client = new Client().initialized().open("a", 1, "x");
        String change = "\"contentChanges\":[{\"text\":\"y\"}]";
        for (String wrong : new String[] {"{}", "{" + change + "}", "{\"textDocument\":\"a\"," + change + "}", "{\"textDocument\":{\"version\":2}," + change + "}",
            "{\"textDocument\":{\"uri\":\"a\"}," + change + "}", "{\"textDocument\":{\"uri\":1,\"version\":2}," + change + "}",
            "{\"textDocument\":{\"uri\":\"a\",\"version\":\"2\"}," + change + "}", "{\"textDocument\":{\"uri\":\"a\",\"version\":2.5}," + change + "}",
            "{\"textDocument\":{\"uri\":\"a\",\"version\":2}}", "{\"textDocument\":{\"uri\":\"a\",\"version\":2},\"contentChanges\":{\"text\":\"y\"}}",
            "{\"textDocument\":{\"uri\":\"a\",\"version\":2},\"contentChanges\":null}"}) {
            client.notify("textDocument/didChange", wrong);
            Client.due("text with " + wrong, client.text(0), "x");
        }
        client.dueAnswers("wrong notifications");
        client.notify("textDocument/didChange", "{\"more\":1,\"textDocument\":{\"uri\":\"a\",\"version\":2,\"more\":{}}," + change + "}");
        Client.due("members that are not told", client.text(0), "y");
        Client other = new Client().initialized();
        for (String wrong : new String[] {"{}", "{\"textDocument\":null}", "{\"textDocument\":[]}", "{\"textDocument\":{\"uri\":null,\"version\":1,\"text\":\"\"}}",
            "{\"textDocument\":{\"uri\":\"a\",\"version\":1,\"text\":null}}", "{\"textDocument\":{\"uri\":\"a\",\"version\":null,\"text\":\"\"}}",
            "{\"textDocument\":{\"version\":1,\"text\":\"\"}}", "{\"textDocument\":{\"uri\":\"a\",\"text\":\"\"}}", "{\"textDocument\":{\"uri\":\"a\",\"version\":1}}",
            "{\"uri\":\"a\",\"version\":1,\"text\":\"\"}"}) {
            other.notify("textDocument/didOpen", wrong);
            Client.due("open with " + wrong, other.server.state(3), 0);
        }
        other.say("{\"jsonrpc\":\"2.0\",\"method\":\"textDocument/didOpen\"}");
        Client.due("open without params", other.server.state(3), 0);
        other.dueAnswers("wrong notifications");
    }

    /** "A LINE ends with 13 10, 10, or 13 (behind the last of them is one more line, perhaps without units)" */
    private static void lines() {
        String text = "a\r\nb\nc\rd\n\re\r\r\n\n";
        // a, b, c, d, an empty one, e, an empty one, an empty one, and the last one.
        String[] want = {"Xa", "Xb", "Xc", "Xd", "X\r", "Xe", "X\r\n", "X\n", "X"};
        int[] places = {0, 3, 5, 7, 9, 10, 12, 14, 15};
        for (int line = 0; line < want.length; line++) {
            Client client = dueChange(text, text.substring(0, places[line]) + "X" + text.substring(places[line]), Client.edit(line, 0, line, 0, "X"));
            Client.due("line " + line, client.text(0).startsWith(want[line], places[line]) ? 1 : 0, 1);
        }
        dueNoChange(text, Client.edit(9, 0, 9, 0, "X"));
        dueChange("a\u2028b\u0085c\fd\u000be", "X\u2028b\u0085c\fd\u000be", Client.edit(0, 0, 0, 1, "X"));
        dueNoChange("a\u2028b\u0085c\fd\u000be", Client.edit(1, 0, 1, 0, "X"));
        dueChange("\n", "X", Client.edit(0, 0, 1, 0, "X"));
        // What a change puts beside the end of a line can make one end of two, or two of one.
        dueChange("a\nb", "a\r\nX", Client.edit(0, 1, 0, 1, "\r"), Client.edit(1, 0, 1, 9, "X"));
        dueChange("a\r\nb", "a\rz\nX", Client.edit(0, 1, 1, 0, "\rz\n"), Client.edit(2, 0, 2, 9, "X"));
        // What a longer text had behind the end of this one is no part of it.
        dueChange("a\r\nb", "a\rX", Client.whole("a\r"), Client.edit(1, 0, 1, 0, "X"));
        dueNoChange("a\nb", Client.whole("a"), Client.edit(1, 0, 1, 0, "X"));
    }

    /** "a character beyond the line's units (without its end) is its end" */
    private static void characters() {
        for (String end : new String[] {"\r\n", "\n", "\r", ""}) {
            dueChange("ab" + end, "aXb" + end, Client.edit(0, 1, 0, 1, "X"));
            dueChange("ab" + end, "abX" + end, Client.edit(0, 2, 0, 2, "X"));
            dueChange("ab" + end, "abX" + end, Client.edit(0, 3, 0, 3, "X"));
            dueChange("ab" + end, "abX" + end, Client.edit(0, 4, 0, Integer.MAX_VALUE, "X"));
            dueChange("ab" + end, "aX" + end, Client.edit(0, 1, 0, 5, "X"));
        }
        dueChange("\r\nb", "X\r\nb", Client.edit(0, 5, 0, 5, "X"));
        dueChange("a\ud83d\ude00b", "a\ud83d\ude00Xb", Client.edit(0, 3, 0, 3, "X"));
        dueChange("a\ud83d\ude00b", "a\ud83dX\ude00b", Client.edit(0, 2, 0, 2, "X"));
        dueChange("a\ud83d\ude00b", "a\ud83db", Client.edit(0, 2, 0, 3, ""));
    }

    /** "textDocument/didClose (textDocument: uri): it is open no more." */
    private static void closing() {
        Client client = new Client().initialized();
        client.close("a");
        client.dueAnswers("nothing is open");
        client.open("a", 7, "x.").close("b");
        for (String wrong : new String[] {"{}", "{\"textDocument\":\"a\"}", "{\"uri\":\"a\"}", "{\"textDocument\":{\"uri\":[\"a\"]}}"}) {
            client.notify("textDocument/didClose", wrong);
        }
        client.dueAnswers("another, or wrong params");
        Client.due("open", client.server.state(3), 1);
        client.close("a");
        client.dueAnswers("closed", Client.diagnostics("a", 7));
        Client.due("open", client.server.state(3), 0);
        Client.due("document", client.server.document(0, 0), -1);
        Client.due("unit", client.server.unit(0, 0), -1);
        Client.due("sentence", client.server.sentence(0, 0, 0), -1);
        client.close("a");
        client.dueAnswers("closed again");
    }

    /** "-32602 when it is not open, or the line is not there." */
    private static void goalsParams() {
        Client client = new Client().initialized().open("a", 1, "\n");
        client.server.take();
        client.askGoals("1", "a", 1, 0);
        client.dueAnswers("the last line", Client.result("1", "null"));
        client.askGoals("1", "a", 1, Integer.MAX_VALUE);
        client.dueAnswers("beyond its units", Client.result("1", "null"));
        int[][] places = {{2, 0}, {Integer.MAX_VALUE, 0}, {-1, 0}, {0, -1}, {Integer.MIN_VALUE, Integer.MIN_VALUE}};
        for (int[] place : places) {
            client.askGoals("1", "a", place[0], place[1]);
            dueError(client, "goals at " + place[0] + ":" + place[1], -32602, "bad params");
        }
        client.askGoals("1", "b", 0, 0);
        dueError(client, "goals of one that is not open", -32602, "bad params");
        client.close("a");
        client.server.take();
        client.askGoals("1", "a", 0, 0);
        dueError(client, "goals of one that is closed", -32602, "bad params");
    }

    /** "proof/statement (a request): textDocument (uri), name, a string" */
    private static void statementParams() {
        Client client = new Client().initialized().open("a", 1, "");
        client.server.take();
        client.askStatement("1", "a", "");
        client.dueAnswers("a name without units", Client.result("1", "null"));
        client.askStatement("1", "a", Client.repeat("a", 100));
        client.dueAnswers("a long name", Client.result("1", "null"));
        for (String wrong : new String[] {"{}", "{\"name\":\"x\"}", "{\"textDocument\":{\"uri\":\"a\"}}", "{\"textDocument\":{\"uri\":\"a\"},\"name\":1}",
            "{\"textDocument\":{\"uri\":\"a\"},\"name\":null}", "{\"textDocument\":{\"uri\":\"a\"},\"name\":[\"x\"]}", "{\"textDocument\":{\"uri\":\"b\"},\"name\":\"x\"}",
            "{\"textDocument\":\"a\",\"name\":\"x\"}"}) {
            client.request("1", "proof/statement", wrong);
            dueError(client, "statement with " + wrong, -32602, "bad params");
        }
    }

    /** "until all sentences that end at the place or ahead of it are CHECKED, and is answered then" */
    private static void waitingPlaces() {
        // The first sentence ends at 4, the second one at 11.
        Client client = new Client().initialized().open("a", 1, "qed. abort.");
        int[] places = {0, 3, 4, 5, 10, 11, 12};
        int[] waits = {0, 0, 1, 1, 1, 1, 1};
        for (int i = 0; i < places.length; i++) {
            client.askGoals(String.valueOf(places[i]), "a", 0, places[i]);
            Client.due("answered at " + places[i], client.answers().size(), 1 - waits[i]);
        }
        Client.due("waiting", client.server.state(4), 5);
        client.server.work(4);
        Client.due("waiting ahead of the last step", client.server.state(4), 5);
        client.server.work(1);
        client.dueAnswers("behind the first sentence", Client.result("4", "null"), Client.result("5", "null"), Client.result("10", "null"));
        Client.due("waiting", client.server.state(4), 2);
        client.askGoals("1", "a", 0, 10);
        client.dueAnswers("it need not wait", Client.result("1", "null"));
        client.server.work(3);
        client.dueAnswers("nothing yet");
        client.server.work(1);
        client.dueAnswers("behind the second one", Client.diagnostics("a", 1, Client.diagnostic(0, 0, 0, 4, "not here"), Client.diagnostic(0, 5, 0, 11, "not here")),
                Client.result("11", "null"), Client.result("12", "null"));
    }

    /** "at most 12 requests wait; another one that must wait is answered by -32600" */
    private static void fullOfRequests() {
        Client client = new Client().initialized().open("a", 1, "x.").open("b", 1, "y.");
        for (int i = 1; i <= 11; i++) {
            client.askGoals("2", i % 2 == 0 ? "a" : "b", 0, 2);
        }
        client.askStatement("3", "b", "y");
        Client.due("waiting", client.server.state(4), 12);
        client.dueAnswers("twelve wait");
        client.askGoals("1", "a", 0, 2);
        dueError(client, "the 13th", -32600, "no request");
        client.askStatement("1", "a", "x");
        dueError(client, "the 13th", -32600, "no request");
        client.askGoals("1", "a", 0, 1);
        client.dueAnswers("one that need not wait", Client.result("1", "null"));
        client.askGoals("1", "a", 1, 0);
        dueError(client, "one with wrong params", -32602, "bad params");
        Client.due("waiting", client.server.state(4), 12);
        client.cancel("3");
        client.server.take();
        Client.due("waiting", client.server.state(4), 11);
        client.askGoals("1", "a", 0, 2);
        client.dueAnswers("there is room for one");
        Client.due("waiting", client.server.state(4), 12);
        client.askGoals("4", "a", 0, 2);
        client.dueAnswers("and for no other", Client.error("4", -32600, "no request"));
        client.close("b");
        Client.due("waiting for a", client.server.state(4), 6);
        client.server.work(100);
        Client.due("waiting", client.server.state(4), 0);
    }

    /** "it waits until all sentences of the document are checked: the statement of that name behind the last one (4), or null" */
    private static void statements() {
        Client client = new Client().initialized().open("a", 1, "predicate P 3. axiom a : False. qed.");
        client.askStatement("1", "a", "P").askStatement("2", "a", "a").askStatement("3", "a", "Q").askStatement("4", "a", "qed");
        // Worker 1 begins with the second sentence in the step in which worker 0 is done with the first.
        client.server.work(7 + 7 + 4);
        client.dueAnswers("ahead of the last step");
        client.server.work(1);
        client.dueAnswers("behind it", Client.diagnostics("a", 1, Client.diagnostic(0, 32, 0, 36, "not here")), Client.result("1", "3"), Client.result("2", "\"False\""),
                Client.result("3", "null"), Client.result("4", "null"));
        client.open("b", 1, "").askStatement("1", "b", "P");
        client.dueAnswers("of a document without sentences", Client.diagnostics("b", 1), Client.result("1", "null"));
    }

    /** "The request that waits with this id, if there is one (the one that waits longest), is answered by -32800." */
    private static void cancelling() {
        Client client = new Client().initialized().open("a", 1, "x. y.").open("b", 1, "z.");
        client.cancel("1");
        client.dueAnswers("none waits");
        client.askGoals("1", "a", 0, 5).askGoals("2", "a", 0, 5).askGoals("1", "b", 0, 2).askGoals("\"1\"", "a", 0, 5);
        for (String id : new String[] {"3", "\"2\"", "null", "1.0", "true", "[1]", "\"\"", "\"" + Client.repeat("1", 21) + "\""}) {
            client.cancel(id);
        }
        client.notify("$/cancelRequest", "{}").notify("$/cancelRequest", "{\"ids\":1}");
        client.dueAnswers("no such id");
        Client.due("waiting", client.server.state(4), 4);
        client.cancel("1");
        client.dueAnswers("the one that waits longest", Client.error("1", -32800, "cancelled"));
        client.server.work(5);
        client.dueAnswers("the other one is answered, but for what waits longer", Client.diagnostics("b", 1, Client.diagnostic(0, 0, 0, 2, "syntax")), Client.result("1", "null"));
        client.cancel("1");
        client.dueAnswers("it waits no more");
        client.cancel("\"1\"").cancel("2").cancel("2");
        client.dueAnswers("the rest", Client.error("\"1\"", -32800, "cancelled"), Client.error("2", -32800, "cancelled"));
        Client.due("waiting", client.server.state(4), 0);
        client.server.work(100);
        client.dueAnswers("what is cancelled is not answered again", Client.diagnostics("a", 1, Client.diagnostic(0, 0, 0, 2, "syntax"), Client.diagnostic(0, 3, 0, 5, "syntax")));
    }

    /** "is answered by -32801, at once, in the order in which they came (ahead of the diagnostics that are written then)" */
    private static void modified() {
        Client client = new Client().initialized().open("a", 1, "x.").open("b", 1, "x.");
        client.askGoals("1", "a", 0, 2).askStatement("2", "b", "x").askStatement("3", "a", "x").askGoals("4", "b", 0, 2);
        client.change("a", 1, Client.whole("")).change("a", 2).change("a", 2, Client.edit(5, 0, 5, 0, "")).open("a", 2, "").close("c");
        client.dueAnswers("what is ignored changes nothing");
        Client.due("waiting", client.server.state(4), 4);
        client.change("a", 2, Client.whole(" "));
        client.dueAnswers("changed", Client.error("1", -32801, "modified"), Client.error("3", -32801, "modified"), Client.diagnostics("a", 2));
        client.close("b");
        client.dueAnswers("closed", Client.error("2", -32801, "modified"), Client.error("4", -32801, "modified"), Client.diagnostics("b", 1));
        Client.due("waiting", client.server.state(4), 0);
        client.change("a", 3, Client.whole("x.")).askGoals("5", "a", 0, 2).change("a", 4, Client.edit(0, 0, 0, 0, ""));
        client.dueAnswers("changed, though nothing is different", Client.error("5", -32801, "modified"));
    }

    /** "A request whose id another one has that waits is one like any other." */
    private static void sameIds() {
        Client client = new Client().initialized().open("a", 1, "x.");
        client.askGoals("1", "a", 0, 2).askGoals("1", "a", 0, 2).askStatement("1", "a", "x").askGoals("1", "a", 0, 0);
        client.dueAnswers("one need not wait", Client.result("1", "null"));
        Client.due("waiting", client.server.state(4), 3);
        client.server.work(100);
        String null1 = Client.result("1", "null");
        client.dueAnswers("all are answered", Client.diagnostics("a", 1, Client.diagnostic(0, 0, 0, 2, "syntax")), null1, null1, null1);
    }
}
