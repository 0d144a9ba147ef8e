/** Promises 6 and 7, term 5: workers, steps, what is stale and what is kept. */
public final class WorkTest {
    public static void main(String[] args) {
        limits();
        twoWorkers();
        justLeft();
        asked();
        staleChecks();
        keptChecks();
        cache();
        cacheIsShort();
        diagnosticsPlaces();
        Client.end();
    }

    private static void limits() {
        Client client = new Client().initialized().open("a", 1, "qed. qed.");
        Server x = client.server;
        Client.due("work(-1)", x.work(-1), -1);
        Client.due("work(10001)", x.work(10001), -1);
        Client.due("work(0)", x.work(0), 0);
        Client.due("steps", x.state(6), 0);
        Client.due("work(3)", x.work(3), 3);
        Client.due("worker 0", x.state(11), 0);
        Client.due("worker 1", x.state(12), -1);
        Client.due("work(10000)", x.work(10000), 6);
        Client.due("steps", x.state(6), 9);
        Client.due("work(1)", x.work(1), 0);
        Client.due("worker 0", x.state(11), -1);
    }

    private static void twoWorkers() {
        Client client = new Client().initialized().open("a", 1, "qed. qed.").open("b", 1, "x").open("c", 1, "abort.");
        Server x = client.server;
        Client.due("work(1)", x.work(1), 1);
        Client.due("worker 0", x.state(11), 0);
        Client.due("worker 1", x.state(12), 1);
        x.work(3);
        Client.due("worker 1 is done", x.state(12), -1);
        client.dueAnswers("b", Client.diagnostics("b", 1, Client.diagnostic(0, 0, 0, 1, "unfinished")));
        x.work(1);
        Client.due("worker 0 is done with one", x.document(0, 3), 1);
        Client.due("worker 1 has what worker 0 has just left", x.state(12), 0);
        x.work(1);
        Client.due("worker 0 has c", x.state(11), 2);
        Client.due("all", x.work(100), 4);
        client.dueAnswers("a is done in the step before c is", Client.diagnostics("a", 1, Client.diagnostic(0, 0, 0, 4, "not here"),
                Client.diagnostic(0, 5, 0, 9, "not here")), Client.diagnostics("c", 1, Client.diagnostic(0, 0, 0, 6, "not here")));
    }

    private static void justLeft() {
        Client client = new Client().initialized().open("a", 1, "qed. abort. qed.");
        Server x = client.server;
        x.work(5);
        Client.due("worker 1 took the next one in the same step", x.state(12), 0);
        Client.due("worker 0 has none", x.state(11), -1);
        Client.due("the rest", x.work(100), 9);
    }

    private static void asked() {
        Client client = new Client().initialized().open("a", 1, "qed. qed.").open("b", 1, "qed. qed.").open("c", 1, "qed. qed.");
        Server x = client.server;
        client.askStatement("1", "c", "P");
        x.work(1);
        Client.due("worker 0 has what is asked about", x.state(11), 2);
        Client.due("worker 1 has the oldest", x.state(12), 0);
        client.cancel("1");
        client.askGoals("2", "b", 0, 9);
        x.work(4);
        Client.due("checked of a", x.document(0, 3), 1);
        x.work(1);
        Client.due("worker 0", x.document(1, 3) + 10 * x.document(0, 3) + 100 * x.document(2, 3), 111);
    }

    private static void staleChecks() {
        Client client = new Client().initialized().open("a", 1, "qed. abort.");
        Server x = client.server;
        x.work(7);
        Client.due("one is checked", x.document(0, 3), 1);
        client.change("a", 2, Client.edit(0, 5, 0, 6, "A"));
        Client.due("the check is dropped", x.state(12), -1);
        Client.due("what is ahead is kept", x.document(0, 3), 1);
        Client.due("steps for it", x.work(100), 5);
        client.change("a", 3, Client.edit(0, 0, 0, 0, "x"));
        Client.due("all is stale", x.document(0, 3), 0);
        client.close("a").open("a", 1, "abort. abort.");
        x.work(1);
        client.change("a", 2, Client.whole("abort."));
        Client.due("the check of the first stays", x.state(11), 0);
        Client.due("rest of it", x.work(100), 4);
        client.change("a", 3, Client.whole(""));
        Client.due("no sentences", x.document(0, 2), 0);
        Client.due("no work", x.work(100), 0);
    }

    private static void keptChecks() {
        Client client = new Client().initialized().open("a", 1, "qed. abort. (* c *) x");
        Server x = client.server;
        x.work(7);
        client.server.take();
        client.change("a", 2, Client.edit(0, 4, 0, 4, "\n(* more *)"));
        Client.due("one is checked still", x.document(0, 3), 1);
        Client.due("its place", x.sentence(0, 1, 0), 16);
        Client.due("the check that goes on stays", x.state(12), 0);
        Client.due("it takes what was left", x.work(2), 2);
        Client.due("it is done", x.document(0, 3), 2);
        x.work(100);
        client.dueAnswers("diagnostics", Client.diagnostics("a", 2, Client.diagnostic(0, 0, 0, 4, "not here"),
                Client.diagnostic(1, 11, 1, 17, "not here"), Client.diagnostic(1, 26, 1, 27, "unfinished")));
        client.change("a", 3, Client.edit(0, 0, 0, 0, "\r\n"));
        client.dueAnswers("nothing is to be checked", Client.diagnostics("a", 3, Client.diagnostic(1, 0, 1, 4, "not here"),
                Client.diagnostic(2, 11, 2, 17, "not here"), Client.diagnostic(2, 26, 2, 27, "unfinished")));
        Client.due("no steps", x.work(100), 0);
        client.change("a", 4, Client.edit(2, 26, 2, 27, "y"));
        client.dueAnswers("something is to be checked");
        Client.due("steps", x.work(100), 4);
    }

    private static void cache() {
        Client client = new Client().initialized().open("a", 1, "predicate P 0. predicate Q 0. axiom p : P.");
        Server x = client.server;
        Client.due("all", x.work(1000), 21);
        Client.due("checks in the cache", x.state(5), 3);
        Client.due("out of the cache", x.state(7), 0);
        client.close("a").open("b", 1, "(* c *) predicate P 0.(* d *) predicate Q 0. axiom p :  P.");
        Client.due("two are there, the third has other units", x.work(1000), 9);
        Client.due("checks in the cache", x.state(5), 4);
        Client.due("out of the cache", x.state(7), 2);
        client.close("b").open("c", 1, "x. predicate P 0.");
        Client.due("another state ahead, though nothing came of it", x.work(1000), 11);
        Client.due("out of the cache", x.state(7), 2);
        Client.due("checks in the cache", x.state(5), 6);
        client.askStatement("1", "c", "P");
        client.server.take();
        client.close("c").open("d", 1, "predicate P 0. predicate Q 0. axiom p : P.").askStatement("1", "d", "p");
        client.server.take();
        Client.due("all are there", x.work(1000), 2);
        client.dueAnswers("and what came of them", Client.diagnostics("d", 1), Client.result("1", "\"P\""));
    }

    private static void cacheIsShort() {
        Client client = new Client().initialized();
        Server x = client.server;
        StringBuilder text = new StringBuilder();
        for (int i = 0; i < 23; i++) {
            text.append("x").append((char) ('a' + i)).append(". ");
        }
        client.open("a", 1, "qed.").open("b", 1, text.toString());
        x.work(10000);
        Client.due("checks in the cache", x.state(5), 24);
        client.close("a").open("a", 1, "qed.");
        Client.due("the oldest is there, and is the last one then", x.work(1000), 1);
        client.close("a").open("a", 1, "abort.");
        Client.due("a new one drives out the first of b", x.work(1000), 5);
        Client.due("checks in the cache", x.state(5), 24);
        client.close("a").open("a", 1, "qed.");
        Client.due("qed is there", x.work(1000), 1);
        client.close("b").open("b", 1, "xa. xb.");
        Client.due("the first of b is not, and drives out the second", x.work(1000), 9);
    }

    private static void diagnosticsPlaces() {
        Client client = new Client().initialized().open("a", 1, "\r\n x.\rqed.\n\n(* c\n *)  y (* \n *) .\r\nfunction f 0.\r z\n");
        client.server.work(1000);
        client.dueAnswers("diagnostics", Client.diagnostics("a", 1, Client.diagnostic(1, 1, 1, 3, "syntax"), Client.diagnostic(2, 0, 2, 4, "not here"),
                Client.diagnostic(5, 5, 6, 5, "syntax"), Client.diagnostic(8, 1, 9, 0, "unfinished")));
    }
}
