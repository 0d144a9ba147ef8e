/** Terms 3 and 4: requests that wait, are answered, cancelled, or dismissed. */
public final class RequestsTest {
    private static final String TEXT = "predicate P 0.\nlemma l : P -> P.\nintro h.\nexact h.\nqed.\n";

    public static void main(String[] args) {
        goalsByPlace();
        statements();
        waiting();
        order();
        cancelling();
        dismissing();
        tooMany();
        tooLongAnswer();
        Client.end();
    }

    private static void goalsByPlace() {
        Client client = new Client().initialized().open("a", 1, TEXT);
        client.server.work(1000);
        client.server.take();
        int[][] places = {{0, 0}, {0, 14}, {1, 16}, {1, 17}, {2, 7}, {2, 8}, {3, 99}, {4, 3}, {4, 4}, {5, 0}};
        String started = "{\"proof\":\"l\",\"goals\":[\"|- P -> P\"]}";
        String assumed = "{\"proof\":\"l\",\"goals\":[\"h : P, |- P\"]}";
        String done = "{\"proof\":\"l\",\"goals\":[]}";
        String[] want = {"null", "null", "null", started, started, assumed, done, done, "null", "null"};
        for (int i = 0; i < places.length; i++) {
            client.askGoals("1", "a", places[i][0], places[i][1]);
            client.dueAnswers("goals at " + places[i][0] + ":" + places[i][1], Client.result("1", want[i]));
        }
        client.askGoals("1", "a", 6, 0);
        client.dueAnswers("no such line", Client.error("1", -32602, "bad params"));
    }

    private static void statements() {
        Client client = new Client().initialized().open("a", 1, TEXT + "function f 2. axiom ax : forall x, f(x, x) = x * P. lemma m : P.");
        client.server.work(1000);
        client.server.take();
        String[][] want = {{"P", "0"}, {"f", "2"}, {"l", "\"P -> P\""}, {"ax", "\"forall x, f(x, x) = x * P\""}, {"m", "null"}, {"h", "null"},
            {"x", "null"}, {"", "null"}, {"forall", "null"}, {"function", "null"}, {"a b", "null"}, {"P ", "null"}, {"abcdefghijk", "null"}, {"\u00e9", "null"}};
        for (String[] one : want) {
            client.askStatement("1", "a", one[0]);
            client.dueAnswers("statement " + one[0], Client.result("1", one[1]));
        }
    }

    private static void waiting() {
        Client client = new Client().initialized().open("a", 1, TEXT);
        Server x = client.server;
        client.askGoals("1", "a", 2, 8).askGoals("2", "a", 0, 13).askStatement("3", "a", "l").askGoals("4", "a", 1, 18);
        client.dueAnswers("one need not wait", Client.result("2", "null"));
        Client.due("requests that wait", x.state(4), 3);
        x.work(7);
        client.dueAnswers("the first sentence is checked");
        x.work(10);
        client.dueAnswers("the second one is", Client.result("4", "{\"proof\":\"l\",\"goals\":[\"|- P -> P\"]}"));
        x.work(6);
        client.dueAnswers("the third one is", Client.result("1", "{\"proof\":\"l\",\"goals\":[\"h : P, |- P\"]}"));
        x.work(1000);
        client.dueAnswers("all are", Client.diagnostics("a", 1), Client.result("3", "\"P -> P\""));
        Client.due("requests that wait", x.state(4), 0);
    }

    private static void order() {
        Client client = new Client().initialized().open("a", 1, "x. y.").open("b", 1, "x. y.");
        client.askGoals("1", "b", 0, 2).askGoals("2", "a", 0, 9).askGoals("3", "b", 0, 9).askGoals("4", "a", 0, 2).askStatement("5", "b", "x");
        client.server.work(1000);
        String list = Client.diagnostic(0, 0, 0, 2, "syntax");
        String more = Client.diagnostic(0, 3, 0, 5, "syntax");
        client.dueAnswers("answers as they came, behind the diagnostics",
                Client.result("4", "null"), Client.result("1", "null"),
                Client.diagnostics("a", 1, list, more), Client.result("2", "null"),
                Client.diagnostics("b", 1, list, more), Client.result("3", "null"), Client.result("5", "null"));
    }

    private static void cancelling() {
        Client client = new Client().initialized().open("a", 1, "x. y.");
        client.askGoals("1", "a", 0, 2).askGoals("\"1\"", "a", 0, 5).askStatement("1", "a", "x").askGoals("\"\\u0031\\u000a\"", "a", 0, 5);
        client.cancel("2").cancel("null").cancel("1.0").notify("$/cancelRequest", "{}").notify("$/cancelRequest", "{\"id\":[1]}");
        client.dueAnswers("none of these waits");
        client.cancel("\"1\"");
        client.dueAnswers("a string", Client.error("\"1\"", -32800, "cancelled"));
        client.cancel("\"1\\n\"");
        client.dueAnswers("the same string", Client.error("\"1\\u000a\"", -32800, "cancelled"));
        Client.due("requests that wait", client.server.state(4), 2);
        client.cancel("1");
        client.dueAnswers("the one that waits longest", Client.error("1", -32800, "cancelled"));
        client.server.work(5);
        client.dueAnswers("the other one waits for more");
        client.cancel("1").cancel("1");
        client.dueAnswers("the other one", Client.error("1", -32800, "cancelled"));
        Client.due("requests that wait", client.server.state(4), 0);
    }

    private static void dismissing() {
        Client client = new Client().initialized().open("a", 1, "x.").open("b", 1, "x.");
        client.askGoals("1", "a", 0, 2).askGoals("2", "b", 0, 2).askStatement("3", "a", "x");
        client.change("a", 1, Client.whole("y."));
        client.dueAnswers("a change that is ignored");
        client.change("a", 2, Client.whole(""));
        client.dueAnswers("changed", Client.error("1", -32801, "modified"), Client.error("3", -32801, "modified"), Client.diagnostics("a", 2));
        client.close("b");
        client.dueAnswers("closed", Client.error("2", -32801, "modified"), Client.diagnostics("b", 1));
        Client.due("requests that wait", client.server.state(4), 0);
        client.open("b", 1, "x.").askGoals("4", "b", 0, 2).change("b", 2, Client.edit(0, 2, 0, 2, " "));
        client.dueAnswers("changed, though the sentence is as it was", Client.error("4", -32801, "modified"));
    }

    private static void tooMany() {
        Client client = new Client().initialized().open("a", 1, "x. y.");
        for (int i = 1; i <= 12; i++) {
            client.askGoals("7", "a", 0, 5);
        }
        Client.due("requests that wait", client.server.state(4), 12);
        client.dueAnswers("twelve wait");
        client.askGoals("13", "a", 0, 5).askStatement("14", "a", "x").askGoals("15", "a", 0, 0);
        client.dueAnswers("another one must not", Client.error("13", -32600, "no request"), Client.error("14", -32600, "no request"), Client.result("15", "null"));
        client.cancel("7").askGoals("16", "a", 0, 5);
        client.dueAnswers("there is room again", Client.error("7", -32800, "cancelled"));
        Client.due("requests that wait", client.server.state(4), 12);
        client.server.work(1000);
        Client.due("answers", client.answers().size(), 13);
        Client.due("requests that wait", client.server.state(4), 0);
    }

    private static void tooLongAnswer() {
        String big = Client.repeat("PPPPPPPPPP * ", 39) + "PPPPPPPPPP";
        StringBuilder text = new StringBuilder("predicate PPPPPPPPPP 0.\naxiom all : forall x, " + big + ".\nfunction c 0.\nlemma l : " + big + ".\n");
        for (int i = 0; i < 8; i++) {
            text.append("use all c h").append(i).append(".\n");
        }
        text.append("split. have a : False.\n");
        Client client = new Client().initialized().open("a", 1, text.toString());
        client.server.work(10000);
        client.server.take();
        client.askGoals("1", "a", 11, 99);
        Client.due("an answer", client.server.state(10) > 4000 ? 1 : 0, 1);
        client.server.take();
        Client.due("lost", client.server.state(8), 0);
        client.askGoals("1", "a", 12, 99).askGoals("2", "a", 12, 99).askGoals("3", "a", 12, 99).askGoals("4", "a", 0, 0);
        Client.due("the third one is lost, the fourth has room", client.answers().size(), 3);
        Client.due("lost", client.server.state(8), 1);
    }
}
