/** Term 3: the life of a server, and which answer which method has. */
public final class MethodsTest {
    private static final String CAPABLE = "{\"capabilities\":{\"textDocumentSync\":2}}";

    public static void main(String[] args) {
        beforeInitialize();
        running();
        behindShutdown();
        badParams();
        Client.end();
    }

    private static void beforeInitialize() {
        Client client = new Client();
        String[] methods = {"shutdown", "proof/goals", "proof/statement", "exit", "nothing", "textDocument/didOpen"};
        for (String method : methods) {
            client.request("1", method, "{}");
            client.dueAnswers(method + " before initialize", Client.error("1", -32002, "not initialized"));
        }
        client.open("a", 1, "");
        client.notify("initialize", "{}");
        client.dueAnswers("notifications before initialize");
        Client.due("open", client.server.state(3), 0);
        client.request("\"i\"", "initialize", "{}");
        client.dueAnswers("initialize", Client.result("\"i\"", CAPABLE));
        client.request("2", "initialize", "{}");
        client.dueAnswers("a second initialize", Client.error("2", -32600, "no request"));
    }

    private static void running() {
        Client client = new Client().initialized();
        String[] methods = {"exit", "nothing", "textDocument/didOpen", "textDocument/didChange", "textDocument/didClose", "$/cancelRequest"};
        for (String method : methods) {
            client.request("1", method, "{}");
            client.dueAnswers(method + " as a request", Client.error("1", -32601, "no method"));
        }
        client.notify("shutdown", "{}").notify("proof/goals", "{}").notify("proof/statement", "{}").notify("nothing", "{}");
        client.dueAnswers("requests as notifications");
        Client.due("broken", client.server.state(0), 0);
        client.say("{\"jsonrpc\":\"2.0\",\"id\":1,\"method\":\"shutdown\"}");
        client.dueAnswers("shutdown", Client.result("1", "null"));
    }

    private static void behindShutdown() {
        Client client = new Client().initialized();
        client.open("a", 1, "qed.");
        client.askGoals("9", "a", 0, 4);
        client.request("1", "shutdown", "{}");
        client.server.take();
        String[] methods = {"initialize", "shutdown", "proof/goals", "nothing", "exit"};
        for (String method : methods) {
            client.request("1", method, "{}");
            client.dueAnswers(method + " behind shutdown", Client.error("1", -32600, "no request"));
        }
        client.say("x");
        client.dueAnswers("no json behind shutdown", Client.error("null", -32700, "not json"));
        client.open("b", 1, "").close("a").cancel("9");
        client.dueAnswers("notifications behind shutdown");
        Client.due("open", client.server.state(3), 1);
        client.server.work(10);
        client.dueAnswers("what is due is written", Client.diagnostics("a", 1, Client.diagnostic(0, 0, 0, 4, "not here")), Client.result("9", "null"));
        client.notify("exit", "{}");
        Client.due("broken", client.server.state(0), 1);
    }

    private static void badParams() {
        String wrong = Client.error("1", -32602, "bad params");
        String goals = "proof/goals";
        String statement = "proof/statement";
        String about = "\"textDocument\":{\"uri\":\"a\"}";
        String[][] asked = {
            {goals, "{}"}, {statement, "{}"},
            {goals, "{" + about + "}"}, {statement, "{" + about + "}"},
            {goals, "{\"textDocument\":{\"uri\":\"b\"},\"position\":{\"line\":0,\"character\":0}}"},
            {statement, "{\"textDocument\":{\"uri\":\"b\"},\"name\":\"P\"}"},
            {goals, "{\"textDocument\":\"a\",\"position\":{\"line\":0,\"character\":0}}"},
            {goals, "{\"textDocument\":{\"uri\":1},\"position\":{\"line\":0,\"character\":0}}"},
            {goals, "{" + about + ",\"position\":{\"line\":0}}"},
            {goals, "{" + about + ",\"position\":{\"character\":0}}"},
            {goals, "{" + about + ",\"position\":{\"line\":0,\"character\":-1}}"},
            {goals, "{" + about + ",\"position\":{\"line\":-1,\"character\":0}}"},
            {goals, "{" + about + ",\"position\":{\"line\":0.0,\"character\":0}}"},
            {goals, "{" + about + ",\"position\":{\"line\":\"0\",\"character\":0}}"},
            {goals, "{" + about + ",\"position\":[0,0]}"},
            {goals, "{" + about + ",\"position\":{\"line\":1,\"character\":0}}"},
            {statement, "{" + about + ",\"name\":1}"},
            {statement, "{" + about + ",\"name\":null}"},
        };
        Client client = new Client().initialized().open("a", 1, "");
        client.server.take();
        for (String[] one : asked) {
            client.request("1", one[0], one[1]);
            client.dueAnswers(one[0] + " " + one[1], wrong);
        }
        client.request("1", goals, "{" + about + ",\"position\":{\"line\":0,\"character\":2147483647,\"x\":1},\"y\":2}");
        client.dueAnswers("members that are not told", Client.result("1", "null"));
        client.say("{\"jsonrpc\":\"2.0\",\"id\":1,\"method\":\"proof/goals\"}");
        client.dueAnswers("no params", wrong);
    }
}
