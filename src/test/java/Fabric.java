import java.util.ArrayList;
import java.util.List;
import java.util.function.ToIntFunction;

/**
 * The class as the document lets it be used: an object answers 512 calls, and what it answers behind them is free.
 * Then a new object is led to the same state by the same calls, so a test may look as often as it likes.
 */
final class Fabric {
    private static final int MOST_CALLS = 512;

    /** The calls that may change something, those that were refused among them. */
    private final List<ToIntFunction<Fabricsim>> story = new ArrayList<>();
    private Fabricsim x = new Fabricsim();
    private int calls = 0;

    private Fabricsim next() {
        if (calls == MOST_CALLS) {
            x = new Fabricsim();
            calls = 0;
            for (ToIntFunction<Fabricsim> call : story) {
                calls++;
                callAgain(call);
            }
        }
        if (calls == MOST_CALLS) {
            throw new IllegalStateException("this test makes more calls than the document allows");
        }
        calls++;
        return x;
    }

    private void callAgain(ToIntFunction<Fabricsim> call) {
        try {
            call.applyAsInt(x);
        } catch (RuntimeException e) {
            // It was refused the first time too, and the test has looked at that.
        }
    }

    private int change(ToIntFunction<Fabricsim> call) {
        Fabricsim now = next();
        story.add(call);
        return call.applyAsInt(now);
    }

    void reset(int delay, int gap, int window) {
        change(f -> {
            f.reset(delay, gap, window);
            return 0;
        });
    }

    int addFlow(int source, int target, int packets, int later) {
        return change(f -> f.addFlow(source, target, packets, later));
    }

    int cut(int leaf, int spine) {
        return change(f -> f.cut(leaf, spine));
    }

    int restore(int leaf, int spine) {
        return change(f -> f.restore(leaf, spine));
    }

    int pass(int ticks) {
        return change(f -> f.pass(ticks));
    }

    int clock() {
        return next().clock();
    }

    int flows() {
        return next().flows();
    }

    int sent(int flow) {
        return next().sent(flow);
    }

    int delivered(int flow) {
        return next().delivered(flow);
    }

    int lost(int flow) {
        return next().lost(flow);
    }

    int outOfOrder(int flow) {
        return next().outOfOrder(flow);
    }

    int doneIn(int flow) {
        return next().doneIn(flow);
    }

    int flowlets(int flow) {
        return next().flowlets(flow);
    }

    int spineOf(int flow) {
        return next().spineOf(flow);
    }

    int upQueue(int host) {
        return next().upQueue(host);
    }

    int downQueue(int host) {
        return next().downQueue(host);
    }

    int northQueue(int leaf, int spine) {
        return next().northQueue(leaf, spine);
    }

    int southQueue(int spine, int leaf) {
        return next().southQueue(spine, leaf);
    }

    int upCredits(int host) {
        return next().upCredits(host);
    }

    int northCredits(int leaf, int spine) {
        return next().northCredits(leaf, spine);
    }

    int returning() {
        return next().returning();
    }

    int queued() {
        return next().queued();
    }

    int open(int host) {
        return next().open(host);
    }

    int usable(int leaf, int other) {
        return next().usable(leaf, other);
    }

    int leastTicks() {
        return next().leastTicks();
    }
}
