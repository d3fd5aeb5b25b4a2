import java.util.Random;

/**
 * Long runs of calls, right and wrong ones, on the class and on the model, compared after every call.
 * The seeds are fixed, so each run of the test makes the same calls.
 */
public final class ModelTest {
    private static final int RUNS = 400;
    private static final int CALLS = 120;

    private final Random dice;
    private final int hostRange;
    private final int longestPass;
    private final int cutWeight;
    private Fabric x = new Fabric();
    private Model m = new Model(0, 5, 8);
    private String call = "new";
    private boolean same = true;

    private ModelTest(int seed) {
        dice = new Random(seed);
        hostRange = seed % 3 == 0 ? 16 : 8 + seed % 9;
        longestPass = new int[] {1, 3, 8, 30}[seed % 4];
        cutWeight = new int[] {0, 2, 6, 12, 20}[seed % 5];
    }

    public static void main(String[] args) {
        for (int seed = 1; seed <= RUNS; seed++) {
            new ModelTest(seed).run(seed);
        }
        Check.finish("ModelTest");
    }

    private void run(int seed) {
        if (seed % 4 != 0) {
            again();
        }
        int first = dice.nextInt(16);
        for (int i = 0; i < first; i++) {
            flow();
        }
        for (int i = 0; i < CALLS && same; i++) {
            one();
            String got = Check.look(x);
            String want = m.look();
            same = same && got.equals(want);
            Check.due("seed " + seed + ", call " + i + ", " + call + ": the state", got, want);
        }
    }

    private void one() {
        int at = dice.nextInt(40 + cutWeight);
        if (at < 1) {
            again();
        } else if (at < 7) {
            flow();
        } else if (at < 9) {
            wrong();
        } else if (at < 40) {
            let(1 + dice.nextInt(longestPass));
        } else {
            toggle();
        }
    }

    private void answer(int got, int want) {
        same = same && got == want;
        Check.due(call, got, want);
    }

    /** That the call changed nothing shows when the state is compared with that of the model, which was not asked. */
    private static void refused(String what, String exception, Runnable call) {
        Check.due(what + " throws", Check.thrownBy(call), exception);
    }

    private void again() {
        int delay = dice.nextInt(6);
        int gap = 1 + dice.nextInt(dice.nextBoolean() ? 4 : 50);
        int window = 1 + dice.nextInt(16);
        call = "reset(" + delay + ", " + gap + ", " + window + ")";
        x.reset(delay, gap, window);
        m = new Model(delay, gap, window);
    }

    private void flow() {
        int source = dice.nextInt(hostRange);
        int target = dice.nextInt(4) == 0 ? hostRange - 1 : dice.nextInt(16);
        int packets = 1 + dice.nextInt(dice.nextBoolean() ? 8 : 100);
        int later = dice.nextInt(3) > 0 ? 0 : dice.nextInt(20);
        if (source == target) {
            return;
        }
        call = "addFlow(" + source + ", " + target + ", " + packets + ", " + later + ")";
        if (m.flows.size() == 24) {
            refused(call, "IllegalStateException", () -> x.addFlow(source, target, packets, later));
        } else {
            answer(x.addFlow(source, target, packets, later), m.add(source, target, packets, later));
        }
    }

    private void let(int ticks) {
        call = "pass(" + ticks + ")";
        int want = 0;
        for (int i = 0; i < ticks; i++) {
            want += m.step();
        }
        answer(x.pass(ticks), want);
    }

    private void toggle() {
        int leaf = dice.nextInt(4);
        int spine = dice.nextInt(4);
        if (m.cut[leaf][spine]) {
            call = "restore(" + leaf + ", " + spine + ")";
            refused("a second cut", "IllegalStateException", () -> x.cut(leaf, spine));
            m.cut[leaf][spine] = false;
            answer(x.restore(leaf, spine), m.cutCount());
        } else {
            call = "cut(" + leaf + ", " + spine + ")";
            refused("restore of what is not cut", "IllegalStateException", () -> x.restore(leaf, spine));
            m.cut[leaf][spine] = true;
            answer(x.cut(leaf, spine), m.queues.get("north" + leaf + spine).size()
                    + m.queues.get("south" + spine + leaf).size());
        }
    }

    private void wrong() {
        call = "wrong calls";
        refused("reset", "IllegalArgumentException", () -> x.reset(6, 1, 1));
        refused("addFlow", "IllegalArgumentException", () -> x.addFlow(3, 3, 1, 0));
        refused("pass", "IllegalArgumentException", () -> x.pass(201));
        refused("sent", "IndexOutOfBoundsException", () -> x.sent(m.flows.size()));
    }
}
