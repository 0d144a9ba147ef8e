import java.util.ArrayList;
import java.util.List;

/**
 * A ProofServer whose objects are used for 512 calls each, as the document promises no more: the calls that change it are
 * written down and made again on a new object, when one is used up by calls that only look at it.
 */
final class Server {
    private static final int CALLS_MOST = 512;
    private static final int FEED = 0;
    private static final int GIVE = 1;
    private static final int TAKE = 2;
    private static final int WORK = 3;
    private static final int BATCH = 4;

    private final List<int[]> made = new ArrayList<>();
    private ProofServer object = new ProofServer();
    private int used;

    int feed(int a, int b, int c, int d, int e) {
        return change(FEED, a, b, c, d, e);
    }

    int give(int n) {
        return change(GIVE, n);
    }

    int take() {
        return change(TAKE);
    }

    int work(int k) {
        return change(WORK, k);
    }

    int batch(int n) {
        return change(BATCH, n);
    }

    int out(int i) {
        return looked().out(i);
    }

    int state(int what) {
        return looked().state(what);
    }

    int document(int d, int what) {
        return looked().document(d, what);
    }

    int unit(int d, int i) {
        return looked().unit(d, i);
    }

    int sentence(int d, int k, int what) {
        return looked().sentence(d, k, what);
    }

    int verdict(int k, int what) {
        return looked().verdict(k, what);
    }

    int goals(int k, int i) {
        return looked().goals(k, i);
    }

    private int change(int... call) {
        ProofServer changed = looked();
        made.add(call);
        return makeAgain(changed, call);
    }

    private ProofServer looked() {
        if (used >= CALLS_MOST) {
            if (made.size() >= CALLS_MOST) {
                throw new IllegalStateException("a test that needs more than 512 calls of one object");
            }
            object = new ProofServer();
            for (int[] call : made) {
                makeAgain(object, call);
            }
            used = made.size();
        }
        used++;
        return object;
    }

    private static int makeAgain(ProofServer on, int[] call) {
        switch (call[0]) {
            case FEED: return on.feed(call[1], call[2], call[3], call[4], call[5]);
            case GIVE: return on.give(call[1]);
            case TAKE: return on.take();
            case WORK: return on.work(call[1]);
            default: return on.batch(call[1]);
        }
    }
}
