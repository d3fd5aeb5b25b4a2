import java.util.Random;
import java.util.function.IntSupplier;

/**
 * Whole lives of objects, each of 512 calls and not one more: every call of the face, with right and wrong arguments,
 * each answer and each exception compared with what the model says. Two objects live side by side, so that nothing
 * of the one shows in the other. Unlike in the other tests no object is made anew in between.
 */
public final class LifeTest {
    private static final int PAIRS = 60;
    private static final int CALLS = 512;
    /** How often each call of the face is made, in the order of the document; a reset is rare, else all is empty. */
    private static final int[] WEIGHTS = {1, 8, 3, 9, 18, 1, 1, 2, 2, 2, 2, 2, 2, 2, 2, 2, 3, 3, 2, 3, 2, 2, 2, 2, 3};

    private static final int[] asked = new int[WEIGHTS.length];
    private static int refused = 0;

    private final Random dice;
    private final String name;
    private final int mostTicks;
    /** One out of so many arguments is out of its range. */
    private final int wrongOneIn;
    private final Fabricsim x = new Fabricsim();
    private Model m = new Model(0, 5, 8);
    private int calls = 0;

    private LifeTest(int seed) {
        dice = new Random(seed);
        name = "life " + seed;
        mostTicks = new int[] {4, 12, 40, 200}[seed % 4];
        wrongOneIn = new int[] {15, 50, 200}[seed % 3];
    }

    public static void main(String[] args) {
        for (int pair = 0; pair < PAIRS; pair++) {
            LifeTest one = new LifeTest(2 * pair);
            LifeTest other = new LifeTest(2 * pair + 1);
            for (int call = 1; call <= CALLS; call++) {
                one.next();
                other.next();
            }
        }
        for (int kind = 0; kind < asked.length; kind++) {
            Check.due("kind " + kind + " was asked often", asked[kind] >= PAIRS ? 1 : 0, 1);
        }
        Check.due("many calls were refused", refused >= 20 * PAIRS ? 1 : 0, 1);
        Check.finish("LifeTest");
    }

    // ---- answers

    private static String told(IntSupplier call) {
        try {
            return "" + call.getAsInt();
        } catch (RuntimeException e) {
            return e.getClass().getSimpleName();
        }
    }

    private void due(String what, IntSupplier got, IntSupplier want) {
        String wanted = told(want);
        refused += wanted.endsWith("Exception") ? 1 : 0;
        Check.due(name + ", call " + calls + ", " + what, told(got), wanted);
    }

    private static int argument() {
        throw new IllegalArgumentException();
    }

    private static int state() {
        throw new IllegalStateException();
    }

    private static int noFlow() {
        throw new IndexOutOfBoundsException();
    }

    private static boolean in(int value, int least, int most) {
        return least <= value && value <= most;
    }

    private int drawn(int least, int most) {
        if (dice.nextInt(wrongOneIn) > 0) {
            return least + dice.nextInt(most - least + 1);
        }
        return new int[] {least - 1, most + 1, Integer.MIN_VALUE, Integer.MAX_VALUE}[dice.nextInt(4)];
    }

    // ---- calls

    private void next() {
        calls++;
        int kind = calls <= 8 ? 1 : drawnKind();
        asked[kind]++;
        if (kind < 7) {
            setUp(kind);
        } else if (kind < 14) {
            askFlow(kind);
        } else {
            askLinks(kind);
        }
    }

    private int drawnKind() {
        int sum = 0;
        for (int weight : WEIGHTS) {
            sum += weight;
        }
        int at = dice.nextInt(sum);
        int kind = 0;
        while (at >= WEIGHTS[kind]) {
            at -= WEIGHTS[kind];
            kind++;
        }
        return kind;
    }

    private void setUp(int kind) {
        switch (kind) {
            case 0:
                reset(drawn(0, 5), drawn(1, 50), drawn(1, 16));
                break;
            case 1:
                addFlow(drawn(0, 15), drawn(0, 15), drawn(1, 100), dice.nextInt(3) > 0 ? 0 : drawn(0, 100));
                break;
            case 2:
                cut(drawn(0, 3), drawn(0, 3));
                break;
            case 3:
                restore(drawn(0, 3), drawn(0, 3));
                break;
            case 4:
                pass(drawn(1, mostTicks));
                break;
            case 5:
                due("clock()", x::clock, () -> m.tick);
                break;
            default:
                due("flows()", x::flows, m.flows::size);
                break;
        }
    }

    private void reset(int delay, int gap, int window) {
        due("reset(" + delay + ", " + gap + ", " + window + ")", () -> {
            x.reset(delay, gap, window);
            return 0;
        }, () -> {
            if (!in(delay, 0, 5) || !in(gap, 1, 50) || !in(window, 1, 16)) {
                return argument();
            }
            m = new Model(delay, gap, window);
            return 0;
        });
    }

    private void addFlow(int source, int target, int packets, int later) {
        due("addFlow(" + source + ", " + target + ", " + packets + ", " + later + ")",
                () -> x.addFlow(source, target, packets, later), () -> {
                    boolean hosts = in(source, 0, 15) && in(target, 0, 15) && source != target;
                    if (!hosts || !in(packets, 1, 100) || !in(later, 0, 100)) {
                        return argument();
                    }
                    return m.flows.size() == 24 ? state() : m.add(source, target, packets, later);
                });
    }

    private void cut(int leaf, int spine) {
        due("cut(" + leaf + ", " + spine + ")", () -> x.cut(leaf, spine), () -> {
            if (!in(leaf, 0, 3) || !in(spine, 0, 3)) {
                return argument();
            }
            if (m.cut[leaf][spine]) {
                return state();
            }
            m.cut[leaf][spine] = true;
            return m.queues.get("north" + leaf + spine).size() + m.queues.get("south" + spine + leaf).size();
        });
    }

    private void restore(int leaf, int spine) {
        due("restore(" + leaf + ", " + spine + ")", () -> x.restore(leaf, spine), () -> {
            if (!in(leaf, 0, 3) || !in(spine, 0, 3)) {
                return argument();
            }
            if (!m.cut[leaf][spine]) {
                return state();
            }
            m.cut[leaf][spine] = false;
            return m.cutCount();
        });
    }

    private void pass(int ticks) {
        due("pass(" + ticks + ")", () -> x.pass(ticks), () -> {
            if (!in(ticks, 1, 200)) {
                return argument();
            }
            if (m.tick + ticks > 100_000) {
                return state();
            }
            int count = 0;
            for (int i = 0; i < ticks; i++) {
                count += m.step();
            }
            return count;
        });
    }

    private void askFlow(int kind) {
        int flow = drawn(0, Math.max(0, m.flows.size() - 1));
        String[] names = {"sent", "delivered", "lost", "outOfOrder", "doneIn", "flowlets", "spineOf"};
        due(names[kind - 7] + "(" + flow + ")", () -> ofFlow(kind, flow), () -> {
            if (!in(flow, 0, m.flows.size() - 1)) {
                return noFlow();
            }
            Model.Flow f = m.flows.get(flow);
            int last = f.spines.isEmpty() ? Model.NONE : f.spines.get(f.spines.size() - 1);
            int[] all = {f.sentIn.size(), f.arrived.size(), f.lost, f.late, f.done, f.spines.size(), last};
            return all[kind - 7];
        });
    }

    private int ofFlow(int kind, int flow) {
        switch (kind) {
            case 7:
                return x.sent(flow);
            case 8:
                return x.delivered(flow);
            case 9:
                return x.lost(flow);
            case 10:
                return x.outOfOrder(flow);
            case 11:
                return x.doneIn(flow);
            case 12:
                return x.flowlets(flow);
            default:
                return x.spineOf(flow);
        }
    }

    private void askLinks(int kind) {
        int host = drawn(0, 15);
        int one = drawn(0, 3);
        int two = drawn(0, 3);
        switch (kind) {
            case 14:
                due("upQueue(" + host + ")", () -> x.upQueue(host), () -> queue("up" + host, in(host, 0, 15)));
                break;
            case 15:
                due("downQueue(" + host + ")", () -> x.downQueue(host), () -> queue("down" + host, in(host, 0, 15)));
                break;
            case 16:
                due("northQueue(" + one + ", " + two + ")", () -> x.northQueue(one, two),
                        () -> queue("north" + one + two, in(one, 0, 3) && in(two, 0, 3)));
                break;
            case 17:
                due("southQueue(" + one + ", " + two + ")", () -> x.southQueue(one, two),
                        () -> queue("south" + one + two, in(one, 0, 3) && in(two, 0, 3)));
                break;
            case 18:
                due("upCredits(" + host + ")", () -> x.upCredits(host), () -> credits("up" + host, in(host, 0, 15)));
                break;
            case 19:
                due("northCredits(" + one + ", " + two + ")", () -> x.northCredits(one, two),
                        () -> credits("north" + one + two, in(one, 0, 3) && in(two, 0, 3)));
                break;
            case 20:
                due("returning()", x::returning, m::returning);
                break;
            case 21:
                due("queued()", x::queued, m::queued);
                break;
            case 22:
                due("open(" + host + ")", () -> x.open(host), () -> in(host, 0, 15) ? m.open(host) : argument());
                break;
            case 23:
                due("usable(" + one + ", " + two + ")", () -> x.usable(one, two), () -> usable(one, two));
                break;
            default:
                due("leastTicks()", x::leastTicks, m::leastTicks);
                break;
        }
    }

    private int queue(String link, boolean there) {
        return there ? m.queues.get(link).size() : argument();
    }

    private int credits(String link, boolean there) {
        return there ? m.credits(link) : argument();
    }

    private int usable(int leaf, int other) {
        if (!in(leaf, 0, 3) || !in(other, 0, 3) || leaf == other) {
            return argument();
        }
        int bits = 0;
        for (int spine : m.usable(leaf, other)) {
            bits |= 1 << spine;
        }
        return bits;
    }
}
