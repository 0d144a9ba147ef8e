/** Terms 3 and 5: documents are opened, changed, closed (promises 8 and 9). */
public final class DocumentsTest {
    public static void main(String[] args) {
        opening();
        wrongOpening();
        closing();
        changing();
        lines();
        wrongChanging();
        tooLong();
        pairs();
        Client.end();
    }

    private static void opening() {
        Client client = new Client().initialized();
        Server x = client.server;
        client.open("a", 7, "x. y.").open("b", -2, "").open("a", 9, "z").open("c", 0, "(* *)").open("d", 1, "");
        Client.due("open", x.state(3), 3);
        Client.due("version of a", x.document(0, 0), 7);
        Client.due("units of a", x.document(0, 1), 5);
        Client.due("sentences of a", x.document(0, 2), 2);
        Client.due("checked of a", x.document(0, 3), 0);
        Client.due("text of a", client.text(0), "x. y.");
        Client.due("version of b", x.document(1, 0), -2);
        Client.due("units of b", x.document(1, 1), 0);
        Client.due("unit of b", x.unit(1, 0), -1);
        Client.due("units of c", x.document(2, 1), 5);
        Client.due("no fourth", x.document(3, 0), -1);
        client.dueAnswers("those with nothing to be checked", Client.diagnostics("b", -2), Client.diagnostics("c", 0));
    }

    private static void wrongOpening() {
        String forty = Client.repeat("u", 40);
        String[] wrong = {"{}", "{\"textDocument\":{\"version\":1,\"text\":\"\"}}", "{\"textDocument\":{\"uri\":\"a\",\"text\":\"\"}}",
            "{\"textDocument\":{\"uri\":\"a\",\"version\":1}}", "{\"textDocument\":{\"uri\":\"\",\"version\":1,\"text\":\"\"}}",
            "{\"textDocument\":{\"uri\":\"" + forty + "u\",\"version\":1,\"text\":\"\"}}",
            "{\"textDocument\":{\"uri\":\"a\",\"version\":1.5,\"text\":\"\"}}", "{\"textDocument\":{\"uri\":\"a\",\"version\":1,\"text\":1}}",
            "{\"textDocument\":{\"uri\":\"a\",\"version\":1,\"text\":\"" + Client.repeat(" ", 1501) + "\"}}",
            "{\"textDocument\":[\"a\",1,\"\"]}"};
        Client client = new Client().initialized();
        for (String params : wrong) {
            client.notify("textDocument/didOpen", params);
            Client.due("open with " + params, client.server.state(3), 0);
        }
        client.open(forty, 1, Client.repeat(" ", 1500));
        Client.due("open", client.server.state(3), 1);
        Client.due("units", client.server.document(0, 1), 1500);
        client.dueAnswers("of a long one", Client.diagnostics(forty, 1));
    }

    private static void closing() {
        Client client = new Client().initialized();
        Server x = client.server;
        client.open("a", 1, "x.").open("b", 2, "y.").open("c", 3, "z.");
        x.work(1);
        Client.due("worker 1", x.state(12), 1);
        client.close("d").close("a");
        Client.due("open", x.state(3), 2);
        Client.due("worker 0", x.state(11), -1);
        Client.due("worker 1 has b still", x.state(12), 0);
        Client.due("text of b", client.text(0), "y.");
        client.dueAnswers("close", Client.diagnostics("a", 1));
        client.open("a", 5, "w.");
        Client.due("a is the last one now", x.document(2, 0), 5);
        client.notify("textDocument/didClose", "{\"textDocument\":\"a\"}").notify("textDocument/didClose", "{}");
        Client.due("wrong params", x.state(3), 3);
        client.close("b").close("c").close("a");
        client.dueAnswers("close all", Client.diagnostics("b", 2), Client.diagnostics("c", 3), Client.diagnostics("a", 5));
        Client.due("nothing to do", x.work(10), 0);
    }

    private static void dueChanged(String text, String want, String... changes) {
        Client client = new Client().initialized().open("a", 1, text).change("a", 2, changes);
        Client.due("text of " + text + " with " + String.join(",", changes), client.text(0), want);
        Client.due("version", client.server.document(0, 0), 2);
    }

    private static void changing() {
        dueChanged("abc", "xyz", Client.whole("xyz"));
        dueChanged("abc", "", Client.whole(""));
        dueChanged("abc", "aXc", Client.edit(0, 1, 0, 2, "X"));
        dueChanged("abc", "abcX", Client.edit(0, 3, 0, 3, "X"));
        dueChanged("abc", "Xabc", Client.edit(0, 0, 0, 0, "X"));
        dueChanged("abc", "X", Client.edit(0, 0, 0, 100, "X"));
        dueChanged("abc", "abcX", Client.edit(0, 9, 0, 5, "X"));
        dueChanged("abc", "12c", Client.edit(0, 0, 0, 1, "1"), Client.edit(0, 1, 0, 2, "2"));
        Client shorter = new Client().initialized().open("a", 1, "(* b *)").change("a", 2, Client.edit(0, 6, 0, 7, ""));
        Client.due("what the text had behind its end is gone", shorter.server.document(0, 2), 1);
        dueChanged("abc", "y2", Client.whole("y"), Client.edit(0, 1, 0, 1, "2"));
        dueChanged("a", "12345678", Client.whole("1"), Client.edit(0, 1, 0, 1, "2"), Client.edit(0, 2, 0, 2, "3"), Client.edit(0, 3, 0, 3, "4"),
                Client.edit(0, 4, 0, 4, "5"), Client.edit(0, 5, 0, 5, "6"), Client.edit(0, 6, 0, 6, "7"), Client.edit(0, 7, 0, 7, "8"));
    }

    private static void lines() {
        dueChanged("a\nb\rc\r\nd", "a\nb\rc\r\nXd", Client.edit(3, 0, 3, 0, "X"));
        dueChanged("a\nb\rc\r\nd", "a\nb\rcX\r\nd", Client.edit(2, 5, 2, 7, "X"));
        dueChanged("a\nb\rc\r\nd", "aXc\r\nd", Client.edit(0, 1, 2, 0, "X"));
        dueChanged("a\n", "a\nX", Client.edit(1, 9, 1, 9, "X"));
        dueChanged("a\r", "a\rX", Client.edit(1, 0, 1, 0, "X"));
        dueChanged("a\r\n", "a\r\nX", Client.edit(1, 0, 1, 0, "X"));
        dueChanged("\r\r\n\n", "\r\r\nX\n", Client.edit(2, 0, 2, 0, "X"));
        dueChanged("", "X", Client.edit(0, 0, 0, 0, "X"));
        dueChanged("a\nb", "a\n\rb", Client.edit(0, 1, 1, 0, "\n\r"));
    }

    private static void dueIgnored(String text, String... changes) {
        Client client = new Client().initialized().open("a", 1, text).change("a", 2, changes);
        Client.due("text of " + text + " with " + String.join(",", changes), client.text(0), text);
        Client.due("version", client.server.document(0, 0), 1);
    }

    private static void wrongChanging() {
        dueIgnored("abc");
        dueIgnored("abc", "1");
        dueIgnored("abc", "{}");
        dueIgnored("abc", "{\"text\":1}");
        dueIgnored("abc", "{\"text\":\"x\",\"range\":{\"start\":{\"line\":0,\"character\":0}}}");
        dueIgnored("abc", "{\"text\":\"x\",\"range\":{\"start\":{\"line\":0},\"end\":{\"line\":0,\"character\":0}}}");
        dueIgnored("abc", Client.edit(0, 2, 0, 1, "X"));
        dueIgnored("abc", Client.edit(0, 0, 1, 0, "X"));
        dueIgnored("abc", Client.edit(1, 0, 1, 0, "X"));
        dueIgnored("a\nb", Client.edit(1, 0, 0, 1, "X"));
        dueIgnored("abc", Client.edit(0, -1, 0, 0, "X"));
        dueIgnored("abc", Client.edit(-1, 0, 0, 0, "X"));
        dueIgnored("abc", Client.whole("x"), Client.edit(0, 1, 0, 0, "X"));
        dueIgnored("abc", Client.whole("1"), Client.whole("2"), Client.whole("3"), Client.whole("4"), Client.whole("5"), Client.whole("6"),
                Client.whole("7"), Client.whole("8"), Client.whole("9"));
        Client client = new Client().initialized().open("a", 5, "abc");
        client.change("a", 5, Client.whole("x")).change("a", 4, Client.whole("x")).change("b", 6, Client.whole("x"));
        client.notify("textDocument/didChange", "{\"textDocument\":{\"uri\":\"a\"},\"contentChanges\":[{\"text\":\"x\"}]}");
        client.notify("textDocument/didChange", "{\"textDocument\":{\"uri\":\"a\",\"version\":\"6\"},\"contentChanges\":[{\"text\":\"x\"}]}");
        client.notify("textDocument/didChange", "{\"textDocument\":{\"uri\":\"a\",\"version\":6},\"contentChanges\":{\"text\":\"x\"}}");
        client.notify("textDocument/didChange", "{\"textDocument\":{\"uri\":\"a\",\"version\":6}}");
        Client.due("text", client.text(0), "abc");
        Client.due("version", client.server.document(0, 0), 5);
    }

    private static void tooLong() {
        String long1500 = Client.repeat("a", 1500);
        dueIgnored(long1500, Client.edit(0, 0, 0, 0, "X"));
        dueIgnored("abc", Client.whole(long1500 + "a"));
        dueIgnored(long1500, Client.edit(0, 3, 0, 3, "X"), Client.whole(""));
        Client client = new Client().initialized().open("a", 1, long1500).change("a", 2, Client.edit(0, 1499, 0, 1500, "X"));
        Client.due("last unit", client.server.unit(0, 1499), 'X');
        Client.due("version", client.server.document(0, 0), 2);
    }

    private static void pairs() {
        Client client = new Client().initialized().open("\ud83d\ude00", 1, "a\ud83d\ude00b");
        Server x = client.server;
        Client.due("units", x.document(0, 1), 4);
        Client.due("high", x.unit(0, 1), 0xD83D);
        Client.due("low", x.unit(0, 2), 0xDE00);
        client.open("b", 1, "").notify("textDocument/didChange",
                "{\"textDocument\":{\"uri\":\"b\",\"version\":2},\"contentChanges\":[{\"text\":\"\u20ac\ud83d\ude00\\u20AC\"}]}");
        Client.due("units as they are", client.text(1), "\u20ac\ud83d\ude00\u20ac");
        client.close("b");
        x.take();
        client.change("\ud83d\ude00", 2, Client.edit(0, 2, 0, 3, "\u00e9"));
        Client.due("half a pair", x.unit(0, 1), 0xD83D);
        Client.due("behind it", x.unit(0, 2), 0xE9);
        client.close("\ud83d\ude00");
        byte[] written = client.output();
        String text = new String(written, java.nio.charset.StandardCharsets.UTF_8);
        Client.due("uri as UTF-8", text.contains("\"uri\":\"\ud83d\ude00\"") ? 1 : 0, 1);
    }
}
