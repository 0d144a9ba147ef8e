/** The boundary cases of the document's term 5, CHECKING, one sentence of it after the other. */
public final class CheckEdgesTest {
    public static void main(String[] args) {
        keptSentences();
        keptUpToTheFirstOther();
        checkThatGoesOn();
        costs();
        costsOfEarlyFaults();
        costOutOfTheCache();
        fullCache();
        overfullCache();
        lastOneThen();
        lookedAtWhenTaken();
        sameRows();
        whatCame();
        numberOfSteps();
        askedAboutFirst();
        documentsThatNoWorkerHas();
        justLeft();
        numbersOfDocuments();
        writtenInOrder();
        nothingToBeChecked();
        staleIsDropped();
        diagnostics();
        diagnosticsOfClosed();
        Client.end();
    }

    private static String fault(int line, int from, int to, String message) {
        return Client.diagnostic(line, from, line, to, message);
    }

    /** "Those at the beginning that are as they were (the same units) and CHECKED keep that they are" */
    private static void keptSentences() {
        Client client = Client.checked("qed. abort. left.");
        Server x = client.server;
        Client.due("checked", x.document(0, 3), 3);
        client.change("a", 2, Client.edit(0, 4, 0, 5, "\r\n(* c *)\t"));
        Client.due("blanks and comments between do not matter", x.document(0, 3), 3);
        client.change("a", 3, Client.edit(0, 4, 1, 8, "(**)"));
        Client.due("comments alone", x.document(0, 3), 3);
        client.change("a", 4, Client.edit(0, 0, 0, 100, "qed. abort. left. right."));
        Client.due("one more", x.document(0, 3), 3);
        Client.due("sentences", x.document(0, 2), 4);
        client.change("a", 5, Client.whole("qed. abort."));
        Client.due("two less", x.document(0, 3), 2);
        client.change("a", 6, Client.whole("qed. abort. left."));
        Client.due("one is there again, but was not", x.document(0, 3), 2);
        client.change("a", 7, Client.whole(""));
        Client.due("none", x.document(0, 3), 0);
        client.change("a", 8, Client.whole("qed. abort."));
        Client.due("what is gone is not kept", x.document(0, 3), 0);
        x.work(1);
        client.server.work(100);
        client.change("a", 9, Client.whole("qed. abort."));
        Client.due("the same text", x.document(0, 3), 2);
        Client.due("a sentence that is kept", x.sentence(0, 1, 2), 1);
        Client.due("its fault", x.sentence(0, 1, 3), 4);
    }

    private static void keptUpToTheFirstOther() {
        String[] others = {"qEd. abort. left.", "qed abort. left.", "abort. qed. left.", "qed. abort . left.", "qed. abor. left.", "qed. abort(**). left.", "qed. abort. lefT.",
            "x. qed. abort. left.", "abort. left.", "qed. left.", "qed. abort. left"};
        int[] kept = {0, 0, 0, 1, 1, 1, 2, 0, 0, 1, 2};
        for (int i = 0; i < others.length; i++) {
            Client client = Client.checked("qed. abort. left.");
            client.change("a", 2, Client.whole(others[i]));
            Client.due("kept with " + others[i], client.server.document(0, 3), kept[i]);
            Client.due("the first that is not", client.server.sentence(0, kept[i], 2), 0);
            Client.due("its fault", client.server.sentence(0, kept[i], 3), -1);
            client.server.work(1000);
            Client batch = new Client();
            batch.batch(others[i]);
            Client.due("faults of " + others[i], client.sentences(0, 3), batch.verdicts(2));
        }
    }

    /** "the check that goes on stays when its sentence and all ahead of it are as they were" */
    private static void checkThatGoesOn() {
        // Behind 7 steps worker 1 has done 3 of the 5 steps of abort.
        String[] others = {"qed. abort.", " qed.(* c *) abort. left.", "qed. abort. x", "qed. abort(**).", "qed. abort", "qeD. abort.", "x. qed. abort.", "abort.", "qed.", "qed. left. abort."};
        int[] steps = {2, 7, 6, 5, 4, 9, 14, 5, 0, 9};
        boolean[] stays = {true, true, true, false, false, false, false, false, false, false};
        for (int i = 0; i < others.length; i++) {
            Client client = new Client().initialized().open("a", 1, "qed. abort.");
            client.server.work(7);
            Client.due("worker 1", client.server.state(12), 0);
            client.change("a", 2, Client.whole(others[i]));
            Client.due("worker 1 with " + others[i], client.server.state(12), stays[i] ? 0 : -1);
            Client.due("worker 0 with " + others[i], client.server.state(11), -1);
            Client.due("steps with " + others[i], client.server.work(1000), steps[i]);
            Client.due("all is checked with " + others[i], client.server.document(0, 3), client.server.document(0, 2));
        }
    }

    private static void dueCost(String text, int k, int cost) {
        Client client = new Client();
        client.batch(text);
        Client.due("cost of " + k + " of " + text, client.server.verdict(k, 3), cost);
        client.initialized().open("a", 1, text);
        Client.due("cost in a document", client.server.sentence(0, k, 4), cost);
        client.server.work(10000);
        Client.due("cost when it is checked", client.server.sentence(0, k, 4), cost);
    }

    /** "A sentence COSTS 3 and the number of its tokens" */
    private static void costs() {
        dueCost(".", 0, 4);
        dueCost("qed.", 0, 5);
        dueCost("qed. predicate P 0. axiom a : P.", 1, 7);
        dueCost("qed. predicate P 0. axiom a : P.", 2, 8);
        dueCost("axiom a : ~ (P -> f(x, y) = z).", 0, 3 + 17);
        dueCost("qed (* many words here *) .", 0, 5);
        dueCost(Client.repeat("!", 1499) + ".", 0, 1503);
        dueCost(Client.repeat("a ", 749) + ".", 0, 753);
        Client client = new Client().initialized().open("a", 1, Client.repeat("!", 1499) + ".");
        Client.due("steps ahead of the last", client.server.work(1502), 1502);
        Client.due("checked", client.server.document(0, 3), 0);
        Client.due("the last step", client.server.work(1502), 1);
        Client.due("checked", client.server.document(0, 3), 1);
    }

    /** "(1 of the faults 1 and 2" */
    private static void costsOfEarlyFaults() {
        dueCost("x", 0, 4);
        dueCost("lemma l : a b c d e f", 0, 4);
        dueCost("(* a b c", 0, 4);
        dueCost("qed. x y z", 1, 4);
        dueCost(Client.repeat("qed. ", 39) + "qed. a b c d e", 39, 4);
        dueCost(Client.repeat("qed. ", 39) + "qed.", 39, 5);
        Client client = new Client().initialized().open("a", 1, "x y z");
        Client.due("steps", client.server.work(3), 3);
        Client.due("not checked", client.server.sentence(0, 0, 2), 0);
        Client.due("the last step", client.server.work(3), 1);
        Client.due("checked", client.server.sentence(0, 0, 2), 1);
    }

    /** "but 1, when the cache has what comes of it" */
    private static void costOutOfTheCache() {
        Client client = Client.checked("predicate P 0. axiom a : P. x");
        Server x = client.server;
        Client.due("in the cache", x.state(5), 3);
        Client.due("out of the cache", x.state(7), 0);
        client.close("a").open("b", 2, "predicate P 0. axiom a : P. x");
        x.take();
        Client.due("one step", x.work(1), 1);
        Client.due("each worker has done one", x.document(0, 3), 2);
        Client.due("out of the cache", x.state(7), 2);
        Client.due("what it costs without the cache", x.sentence(0, 1, 4), 8);
        Client.due("the last one", x.work(10), 1);
        Client.due("out of the cache", x.state(7), 3);
        Client.due("in the cache", x.state(5), 3);
        client.dueAnswers("with the faults", Client.diagnostics("b", 2, fault(0, 28, 29, "unfinished")));
    }

    private static String numbered(String letter, int count) {
        StringBuilder row = new StringBuilder();
        for (int i = 0; i < count; i++) {
            row.append(letter).append(i).append(". ");
        }
        return row.toString();
    }

    /** "keeps, of the last 24 checks that were done (all documents together" */
    private static void fullCache() {
        Client client = Client.checked(numbered("a", 24));
        Server x = client.server;
        Client.due("in the cache", x.state(5), 24);
        client.close("a").open("a", 1, numbered("a", 24));
        Client.due("steps when all are there", x.work(1000), 12);
        Client.due("out of the cache", x.state(7), 24);
        Client.due("in the cache", x.state(5), 24);
        client = Client.checked(numbered("a", 23));
        Client.due("in the cache", client.server.state(5), 23);
        client.open("b", 1, "b.");
        client.server.work(1000);
        Client.due("one of another document", client.server.state(5), 24);
        client.close("a").open("a", 1, "a0.");
        Client.due("the first of 24 is there", client.server.work(1000), 1);
    }

    private static void overfullCache() {
        Client client = Client.checked(numbered("a", 25));
        Server x = client.server;
        Client.due("in the cache", x.state(5), 24);
        int first = x.state(6);
        client.close("a").open("a", 1, numbered("a", 25));
        Client.due("each one drives out the next", x.work(10000), first);
        Client.due("out of the cache", x.state(7), 0);
        client = Client.checked(numbered("a", 24));
        client.open("b", 1, "b.");
        client.server.work(1000);
        Client.due("in the cache", client.server.state(5), 24);
        client.open("c", 1, "b.");
        Client.due("the last one is there", client.server.work(1000), 1);
        client.close("a").open("a", 1, "a0.");
        Client.due("the first one is not", client.server.work(1000), 5);
        Client.due("out of the cache", client.server.state(7), 1);
    }

    /** "one like an earlier one takes its place and is the last one then" */
    private static void lastOneThen() {
        Client client = Client.checked("z.");
        Server x = client.server;
        client.open("b", 1, numbered("b", 23));
        x.work(1000);
        Client.due("in the cache", x.state(5), 24);
        client.close("a").open("a", 1, "z.");
        Client.due("the first one is there", x.work(1000), 1);
        Client.due("it is no other one", x.state(5), 24);
        client.close("a").open("a", 1, "y.");
        Client.due("a new one", x.work(1000), 5);
        client.close("a").open("a", 1, "z.");
        Client.due("z is there still, as it was the last one", x.work(1000), 1);
        client.close("a").open("a", 1, "b0.");
        Client.due("the first of b is not", x.work(1000), 5);
    }

    /** "(looked at when the check is taken)" */
    private static void lookedAtWhenTaken() {
        Client client = new Client().initialized().open("a", 1, "qed.").open("b", 1, "qed.").open("c", 1, "qed.");
        Server x = client.server;
        Client.due("a and b are taken at once, c when a is done", x.work(1000), 6);
        Client.due("out of the cache", x.state(7), 1);
        Client.due("all three are alike", x.state(5), 1);
        client = new Client().initialized().open("a", 1, "qed.");
        client.server.work(4);
        client.open("b", 1, "qed.");
        client.server.work(1);
        Client.due("worker 1 looks when worker 0 is done", client.server.document(1, 3), 1);
        Client.due("out of the cache", client.server.state(7), 1);
        client = new Client().initialized().open("a", 1, "qed.");
        client.server.work(3);
        client.open("b", 1, "qed.");
        Client.due("a check that was taken a step ahead of that", client.server.work(1000), 5);
        Client.due("out of the cache", client.server.state(7), 0);
    }

    /** "states are the same when they are told by the same row of sentences from the beginning on" */
    private static void sameRows() {
        Client client = Client.checked("predicate P 0. axiom a : P.");
        Server x = client.server;
        for (String other : new String[] {"x. predicate P 0.", "predicate  P 0. axiom a : P.", "predicate P(**) 0. axiom a : P.", "axiom a : P.", "abort. axiom a : P."}) {
            client.close("a").open("a", 1, other);
            x.work(1000);
            Client.due("out of the cache with " + other, x.state(7), 0);
        }
        client.close("a").open("a", 1, "(* c *)\n predicate P 0.(**)axiom a : P.");
        x.work(1000);
        Client.due("out of the cache with comments and blanks between", x.state(7), 2);
    }

    /** "what came of it (the state behind, and the fault)" */
    private static void whatCame() {
        String text = "predicate P 0. predicate P 0. lemma l : P -> P. intro h. left.";
        Client client = Client.checked(text);
        client.open("b", 1, text).askGoals("1", "b", 0, 99);
        client.server.take();
        Client.due("steps", client.server.work(1000), 3);
        Client.due("out of the cache", client.server.state(7), 5);
        Client.due("faults", client.sentences(1, 3), "0 6 0 0 8");
        client.dueAnswers("what is known of it", Client.diagnostics("b", 1, fault(0, 15, 29, "taken"), fault(0, 57, 62, "no match")),
                Client.result("1", "{\"proof\":\"l\",\"goals\":[\"h : P, |- P\"]}"));
    }

    /** "Up to k steps (0 to 10,000), while a worker has a check or there is one to take" */
    private static void numberOfSteps() {
        Client client = new Client().initialized();
        Server x = client.server;
        Client.due("nothing to do", x.work(10000), 0);
        client.open("a", 1, "qed.");
        for (int wrong : new int[] {-1, 10001, Integer.MIN_VALUE, Integer.MAX_VALUE}) {
            Client.due("work(" + wrong + ")", x.work(wrong), -1);
        }
        Client.due("work(0)", x.work(0), 0);
        Client.due("steps", x.state(6), 0);
        Client.due("worker 0", x.state(11), -1);
        Client.due("work(1)", x.work(1), 1);
        Client.due("worker 0", x.state(11), 0);
        Client.due("work(3)", x.work(3), 3);
        Client.due("checked", x.document(0, 3), 0);
        Client.due("work(10000)", x.work(10000), 1);
        Client.due("checked", x.document(0, 3), 1);
        Client.due("worker 0", x.state(11), -1);
        Client.due("steps", x.state(6), 5);
        Client.due("nothing to do", x.work(1), 0);
        Client.due("steps", x.state(6), 5);
    }

    /** "of those about which requests wait, if there are some, otherwise of all, the one that was opened longest ago" */
    private static void askedAboutFirst() {
        Client client = new Client().initialized().open("a", 1, "x y z. x.").open("b", 1, "x y z. x.").open("c", 1, "x y z. x.");
        Server x = client.server;
        x.work(1);
        Client.due("the oldest ones", x.state(11) * 10 + x.state(12), 1);
        client = new Client().initialized().open("a", 1, "x y z. x.").open("b", 1, "x y z. x.").open("c", 1, "x y z. x.");
        client.askGoals("1", "c", 0, 9).askGoals("2", "b", 0, 9).server.work(1);
        Client.due("the oldest ones that are asked about", client.server.state(11) * 10 + client.server.state(12), 12);
        client = new Client().initialized().open("a", 1, "x y z. x.").open("b", 1, "x y z. x.").open("c", 1, "x y z. x.");
        client.askGoals("1", "c", 0, 9).server.work(1);
        Client.due("the one that is asked about, and the oldest one", client.server.state(11) * 10 + client.server.state(12), 20);
        client = new Client().initialized().open("a", 1, "x y z. x.").open("b", 1, "x y z. x.").open("c", 1, "x y z. x.");
        client.askGoals("1", "c", 0, 5).cancel("1").server.work(1);
        Client.due("it is asked about no more", client.server.state(11) * 10 + client.server.state(12), 1);
        client = new Client().initialized().open("a", 1, "x y z. x.").open("b", 1, "x y z. x.").open("c", 1, "x y z. x.");
        client.close("a").open("a", 1, "x y z. x.").server.work(1);
        Client.due("a was opened last", client.server.state(11) * 10 + client.server.state(12), 1);
        Client.due("its text", client.server.document(2, 2), 2);
    }

    /** "of a document that no worker has" */
    private static void documentsThatNoWorkerHas() {
        Client client = new Client().initialized().open("a", 1, "x y z. x. x.");
        Server x = client.server;
        client.askGoals("1", "a", 0, 99);
        for (int step = 1; step <= 6; step++) {
            x.work(1);
            Client.due("worker 1 has none in step " + step, x.state(12), -1);
        }
        client.open("b", 1, "qed");
        x.work(1);
        Client.due("worker 1 has what has just been left", x.state(12), 0);
        x.work(1);
        Client.due("worker 0 has the other one", x.state(11), 1);
    }

    /** "worker 1 may take the next one of a document that worker 0 has just left" */
    private static void justLeft() {
        Client client = new Client().initialized().open("a", 1, "qed. abort. left.");
        Server x = client.server;
        Client.due("steps", x.work(5), 5);
        Client.due("worker 0", x.state(11), -1);
        Client.due("worker 1", x.state(12), 0);
        x.work(3);
        Client.due("worker 0 has none", x.state(11), -1);
        Client.due("worker 1", x.state(12), 0);
        x.work(1);
        Client.due("checked", x.document(0, 3), 2);
        Client.due("worker 0 may not take what worker 1 leaves in that step", x.state(11), -1);
        x.work(1);
        Client.due("but in the next one", x.state(11), 0);
        Client.due("steps", x.work(1000), 4);
        Client.due("steps in all", x.state(6), 14);
    }

    /** "11 the document of worker 0, 12 of worker 1 (the number in the order of opening; -1 without a check)" */
    private static void numbersOfDocuments() {
        Client client = new Client().initialized().open("a", 1, "").open("b", 1, "x y.").open("c", 1, "x y.");
        Server x = client.server;
        Client.due("no checks", x.state(11) * 10 + x.state(12), -11);
        x.work(1);
        Client.due("b and c", x.state(11) * 10 + x.state(12), 12);
        client.close("a");
        Client.due("they are the first ones now", x.state(11) * 10 + x.state(12), 1);
        client.close("b");
        Client.due("c is the only one", x.state(11) * 10 + x.state(12), -10);
        client.close("c");
        Client.due("none", x.state(11) * 10 + x.state(12), -11);
    }

    /** "first the diagnostics, when all sentences of the document are checked, then the answers of requests that wait no more, as they came" */
    private static void writtenInOrder() {
        Client client = new Client().initialized().open("a", 1, "x. y.").open("b", 1, "z.");
        Server x = client.server;
        client.askStatement("1", "b", "z").askGoals("2", "a", 0, 5).askGoals("3", "a", 0, 2).askGoals("4", "b", 0, 2).askStatement("5", "a", "x");
        x.work(4);
        client.dueAnswers("nothing yet");
        x.work(1);
        client.dueAnswers("worker 0 first", Client.result("3", "null"), Client.diagnostics("b", 1, fault(0, 0, 2, "syntax")), Client.result("1", "null"), Client.result("4", "null"));
        x.work(100);
        client.dueAnswers("then the rest", Client.diagnostics("a", 1, fault(0, 0, 2, "syntax"), fault(0, 3, 5, "syntax")), Client.result("2", "null"), Client.result("5", "null"));
    }

    /** "(Also when a document is opened or changed and has nothing to be checked; and a request that need not wait is answered at once.)" */
    private static void nothingToBeChecked() {
        Client client = new Client().initialized().open("a", 1, " (* c *) ");
        client.dueAnswers("opened", Client.diagnostics("a", 1));
        client.change("a", 2, Client.whole(""));
        client.dueAnswers("changed", Client.diagnostics("a", 2));
        client.change("a", 3, Client.whole("x"));
        client.dueAnswers("something is to be checked");
        client.askGoals("1", "a", 0, 0);
        client.dueAnswers("it need not wait", Client.result("1", "null"));
        client.server.work(4);
        client.dueAnswers("checked", Client.diagnostics("a", 3, fault(0, 0, 1, "unfinished")));
        client.change("a", 4, Client.edit(0, 0, 0, 0, "\n"));
        client.dueAnswers("all is kept", Client.diagnostics("a", 4, fault(1, 0, 1, "unfinished")));
        client.askGoals("2", "a", 1, 1).askStatement("3", "a", "x");
        client.dueAnswers("they need not wait", Client.result("2", "null"), Client.result("3", "null"));
        client.change("a", 5, Client.whole(""));
        client.dueAnswers("nothing is left", Client.diagnostics("a", 5));
        Client.due("steps", client.server.work(10), 0);
    }

    /** "A check that is stale is dropped without steps." */
    private static void staleIsDropped() {
        Client client = new Client().initialized().open("a", 1, "x y z u v.").open("b", 1, "x y z u v.");
        Server x = client.server;
        x.work(6);
        client.close("b");
        Client.due("worker 1", x.state(12), -1);
        client.change("a", 2, Client.whole("qed."));
        Client.due("worker 0", x.state(11), -1);
        Client.due("steps", x.state(6), 6);
        Client.due("steps of the new one", x.work(100), 5);
        Client.due("in the cache", x.state(5), 1);
        client.change("a", 3, Client.whole("x y z u v."));
        Client.due("what was dropped is not in the cache", x.work(100), 9);
    }

    /** "of each sentence with a fault, in order" */
    private static void diagnostics() {
        Client client = new Client().initialized().open("a", -7, "predicate P 0.\nlemma l : P -> P.\r\n x.\rpredicate Q 0. exact k.\n\n intro P. qed.\nleft. x");
        client.server.work(10000);
        client.dueAnswers("all faults", Client.diagnostics("a", -7, fault(2, 1, 3, "syntax"), fault(3, 0, 14, "not here"), fault(3, 15, 23, "unknown"), fault(5, 1, 9, "taken"),
                fault(5, 10, 14, "open goals"), fault(6, 0, 5, "no match"), fault(6, 6, 7, "unfinished")));
        client.change("a", Integer.MAX_VALUE, Client.whole("predicate\nP\r\n0.\rpredicate P\n0. axiom a : " + Client.repeat("P ->", 50) + "\nP.\n\nx\n\n"));
        client.server.work(10000);
        client.dueAnswers("over lines", Client.diagnostics("a", Integer.MAX_VALUE, Client.diagnostic(3, 0, 4, 2, "taken"), Client.diagnostic(4, 3, 5, 2, "too large"),
                Client.diagnostic(7, 0, 9, 0, "unfinished")));
        client = new Client().initialized().open("a", 1, "x.\n\n y.");
        client.server.work(1000);
        client.change("a", 2, Client.edit(2, 3, 2, 3, " "));
        client.dueAnswers("places are the same when they are told again", Client.diagnostics("a", 1, fault(0, 0, 2, "syntax"), fault(2, 1, 3, "syntax")),
                Client.diagnostics("a", 2, fault(0, 0, 2, "syntax"), fault(2, 1, 3, "syntax")));
        client = new Client().initialized().open("a", Integer.MIN_VALUE, Client.repeat("qed.\n", 40) + "x.\n");
        client.server.work(10000);
        String[] want = new String[40];
        for (int k = 0; k < 39; k++) {
            want[k] = fault(k, 0, 4, "not here");
        }
        want[39] = Client.diagnostic(39, 0, 41, 0, "too much");
        client.dueAnswers("forty", Client.diagnostics("a", Integer.MIN_VALUE, want));
    }

    /** "When a document is closed, an empty list of its version is written." */
    private static void diagnosticsOfClosed() {
        Client client = new Client().initialized().open("a", 3, "x.").open("b", 4, "");
        client.server.take();
        client.server.work(2);
        client.close("a");
        client.dueAnswers("while it is checked", Client.diagnostics("a", 3));
        client.change("b", 9, Client.whole("x"));
        client.server.work(100);
        client.server.take();
        client.close("b");
        client.dueAnswers("when it is checked, without its faults", Client.diagnostics("b", 9));
        Client.due("nothing to do", client.server.work(100), 0);
    }
}
