import java.util.function.Consumer;

/**
 * The range of each argument, one test for each: the last value that is taken and the first one that is refused at
 * each end; which exception comes first; and that a refused call changes nothing, neither what can be looked at
 * nor what comes later.
 */
public final class RangesTest {
    private static final String ARGUMENT = "IllegalArgumentException";
    private static final String STATE = "IllegalStateException";
    private static final String INDEX = "IndexOutOfBoundsException";

    public static void main(String[] args) {
        delayIs0To5();
        gapIs1To50();
        windowIs1To16();
        sourceIs0To15();
        targetIs0To15();
        targetIsAnotherHost();
        packetsAre1To100();
        laterIs0To100();
        flowsAreAtMost24();
        wrongArgumentComesBeforeFullTable();
        leafOfCutIs0To3();
        spineOfCutIs0To3();
        cutOfWhatIsCut();
        leafOfRestoreIs0To3();
        spineOfRestoreIs0To3();
        restoreOfWhatIsNotCut();
        wrongPlaceComesBeforeWhatIsCut();
        ticksAre1To200();
        ticksEndAt100000();
        refusedPassLetsNoTickPass();
        ticksReach100000InOneCall();
        wrongTicksComeBeforeTheEnd();
        flowIsThere();
        noFlowIsThere();
        hostIs0To15();
        leafAndSpineAre0To3();
        leavesOfUsableAre0To3();
        otherLeafIsAnotherOne();
        Check.finish("RangesTest");
    }

    // ---- helpers

    private static void goOn(Fabric x, int round) {
        if (round == 2) {
            x.addFlow(3, 8, 20, 2);
        } else if (round == 4) {
            x.restore(3, 1);
        } else if (round == 6) {
            x.cut(2, 0);
        }
        x.pass(1 + round);
    }

    /** A refused call on busy fabrics: behind it all goes on as on those that were never asked. */
    private static void refused(String what, String exception, Consumer<Fabric> call) {
        for (int kind = 0; kind < Scenes.BUSY; kind++) {
            Fabric x = Scenes.busy(kind);
            Fabric y = Scenes.busy(kind);
            Check.due(what + " throws", Check.thrownBy(() -> call.accept(x)), exception);
            Check.due("the state behind the refused " + what, Check.look(x), Check.look(y));
            for (int round = 0; round < 8; round++) {
                goOn(x, round);
                goOn(y, round);
                Check.due("round " + round + " behind the refused " + what, Check.look(x), Check.look(y));
            }
        }
    }

    private interface WithValue {
        void call(Fabric x, int value);
    }

    /** Both ends are taken on a new fabric; one beyond each end, and far beyond it, is refused on a busy one. */
    private static void range(String what, int least, int most, WithValue call) {
        for (int value : new int[] {least, most}) {
            Fabric x = new Fabric();
            Check.taken(what + " at " + value, () -> call.call(x, value));
        }
        for (int value : new int[] {least - 1, most + 1, Integer.MIN_VALUE, Integer.MAX_VALUE}) {
            refused(what + " at " + value, ARGUMENT, x -> call.call(x, value));
        }
    }

    // ---- promise 2

    /** "delay: 0 to 5": a credit that leaves in tick 1 is back in tick 2 + delay. */
    private static void delayIs0To5() {
        range("P2 reset, delay", 0, 5, (x, value) -> x.reset(value, 5, 8));
        for (int delay : new int[] {0, 5}) {
            Fabric x = new Fabric();
            x.reset(delay, 5, 8);
            x.addFlow(0, 1, 1, 0);
            x.pass(2 + delay);
            Check.due("P2 credits before, delay " + delay, x.upCredits(0), 3);
            x.pass(1);
            Check.due("P2 credits in tick 2 + delay " + delay, x.upCredits(0), 4);
        }
    }

    /** "gap: 1 to 50". */
    private static void gapIs1To50() {
        range("P2 reset, gap", 1, 50, (x, value) -> x.reset(0, value, 8));
        Check.due("P2 gap 1, sent 1 tick behind", flowletsOfTurns(1, 1), 1);
        Check.due("P2 gap 1, sent 2 ticks behind", flowletsOfTurns(1, 2), 2);
        Check.due("P2 gap 50, sent 50 ticks behind", flowletsOfPause(50, 50), 1);
        Check.due("P2 gap 50, sent 51 ticks behind", flowletsOfPause(50, 51), 2);
    }

    /** Flow 0 and others of its host take turns, so it sends in tick 0 and in tick "flows". */
    private static int flowletsOfTurns(int gap, int flows) {
        Fabric x = new Fabric();
        x.reset(0, gap, 8);
        x.addFlow(0, 4, 2, 0);
        for (int i = 1; i < flows; i++) {
            x.addFlow(0, 1, 2, 0);
        }
        x.pass(flows);
        Check.due("P9 sent before tick " + flows, x.sent(0), 1);
        x.pass(1);
        Check.due("P9 sent in tick " + flows, x.sent(0), 2);
        return x.flowlets(0);
    }

    /** With window 1 packet 1 could be sent in tick 4; no spine is usable then, and all are again in tick "ticks". */
    private static int flowletsOfPause(int gap, int ticks) {
        Fabric x = new Fabric();
        x.reset(0, gap, 1);
        x.addFlow(0, 4, 2, 0);
        x.pass(4);
        for (int s = 0; s < 4; s++) {
            x.cut(1, s);
        }
        x.pass(ticks - 4);
        Check.due("P9 sent before tick " + ticks, x.sent(0), 1);
        for (int s = 0; s < 4; s++) {
            x.restore(1, s);
        }
        x.pass(1);
        Check.due("P9 sent in tick " + ticks, x.sent(0), 2);
        return x.flowlets(0);
    }

    /** "window: 1 to 16": 15 hosts send to host 0 in two ticks. */
    private static void windowIs1To16() {
        range("P2 reset, window", 1, 16, (x, value) -> x.reset(0, 5, value));
        for (int window : new int[] {1, 16}) {
            Fabric x = new Fabric();
            x.reset(0, 5, window);
            for (int h = 1; h < 16; h++) {
                x.addFlow(h, 0, 2, 0);
            }
            x.pass(2);
            Check.due("P2 open with window " + window, x.open(0), window);
        }
    }

    // ---- promise 3

    /** "source: 0 to 15". */
    private static void sourceIs0To15() {
        range("P3 addFlow, source", 0, 15, (x, value) -> x.addFlow(value, 7, 1, 0));
        for (int source : new int[] {0, 15}) {
            Fabric x = new Fabric();
            x.addFlow(source, 7, 1, 0);
            x.pass(1);
            Check.due("P3 sent by host " + source, x.upQueue(source), 1);
        }
    }

    /** "target: 0 to 15". */
    private static void targetIs0To15() {
        range("P3 addFlow, target", 0, 15, (x, value) -> x.addFlow(7, value, 1, 0));
        for (int target : new int[] {0, 15}) {
            Fabric x = new Fabric();
            x.addFlow(7, target, 1, 0);
            x.pass(1);
            Check.due("P3 sent to host " + target, x.open(target), 1);
        }
    }

    /** "target: .. another host": its neighbours are taken, the source itself is not. */
    private static void targetIsAnotherHost() {
        for (int h = 0; h < 16; h++) {
            int host = h;
            refused("P3 addFlow from " + host + " to itself", ARGUMENT, x -> x.addFlow(host, host, 1, 0));
            for (int target : new int[] {(host + 1) % 16, (host + 15) % 16}) {
                Fabric x = new Fabric();
                Check.taken("P3 addFlow from " + host + " to " + target, () -> x.addFlow(host, target, 1, 0));
            }
        }
    }

    /** "packets: 1 to 100": as many are sent and delivered, and not one more. */
    private static void packetsAre1To100() {
        range("P3 addFlow, packets", 1, 100, (x, value) -> x.addFlow(0, 1, value, 0));
        for (int packets : new int[] {1, 100}) {
            Fabric x = new Fabric();
            x.addFlow(0, 1, packets, 0);
            Check.due("P3 delivered of " + packets, x.pass(200), packets);
            Check.due("P9 sent of " + packets, x.sent(0), packets);
            Check.due("P13 done, the last one two ticks behind its sending", x.doneIn(0), packets + 1);
        }
    }

    /** "later: 0 to 100: it starts as many ticks behind the next one; with 0 in the next tick". */
    private static void laterIs0To100() {
        range("P3 addFlow, later", 0, 100, (x, value) -> x.addFlow(0, 1, 1, value));
        for (int later : new int[] {0, 1, 100}) {
            Fabric x = new Fabric();
            x.pass(3);
            x.addFlow(0, 1, 1, later);
            if (later > 0) {
                x.pass(later);
            }
            Check.due("P3 sent before its start, later " + later, x.sent(0), 0);
            x.pass(1);
            Check.due("P3 sent in tick 3 + later " + later, x.sent(0), 1);
        }
    }

    /** "IllegalStateException if there are 24 flows": the 24th is taken, the 25th refused, done ones or not. */
    private static void flowsAreAtMost24() {
        Fabric x = new Fabric();
        Fabric y = new Fabric();
        for (int i = 0; i < 24; i++) {
            Check.due("P3 addFlow " + i, x.addFlow(i % 16, (i + 1) % 16, 1, 0), i);
            y.addFlow(i % 16, (i + 1) % 16, 1, 0);
        }
        for (int round = 0; round < 3; round++) {
            Check.due("P3 a 25th flow throws", Check.thrownBy(() -> x.addFlow(0, 1, 1, 0)), STATE);
            Check.due("P8 flows", x.flows(), 24);
            Check.due("P3 the state behind the 25th", Check.look(x), Check.look(y));
            x.pass(20);
            y.pass(20);
        }
        Check.due("P13 the last one is done", x.doneIn(23) >= 0 ? 1 : 0, 1);
    }

    /** "if several apply, the one that it lists first is thrown". */
    private static void wrongArgumentComesBeforeFullTable() {
        Fabric x = new Fabric();
        for (int i = 0; i < 24; i++) {
            x.addFlow(i % 16, (i + 1) % 16, 1, 0);
        }
        Check.illegalArgument("P3 a 25th flow from -1", x, () -> x.addFlow(-1, 1, 1, 0));
        Check.illegalArgument("P3 a 25th flow from 16", x, () -> x.addFlow(16, 1, 1, 0));
        Check.illegalArgument("P3 a 25th flow to -1", x, () -> x.addFlow(1, -1, 1, 0));
        Check.illegalArgument("P3 a 25th flow to 16", x, () -> x.addFlow(1, 16, 1, 0));
        Check.illegalArgument("P3 a 25th flow to its source", x, () -> x.addFlow(1, 1, 1, 0));
        Check.illegalArgument("P3 a 25th flow of 0", x, () -> x.addFlow(0, 1, 0, 0));
        Check.illegalArgument("P3 a 25th flow of 101", x, () -> x.addFlow(0, 1, 101, 0));
        Check.illegalArgument("P3 a 25th flow -1 later", x, () -> x.addFlow(0, 1, 1, -1));
        Check.illegalArgument("P3 a 25th flow 101 later", x, () -> x.addFlow(0, 1, 1, 101));
        Check.illegalState("P3 a 25th flow at the low ends", x, () -> x.addFlow(0, 1, 1, 0));
        Check.illegalState("P3 a 25th flow at the high ends", x, () -> x.addFlow(15, 14, 100, 100));
    }

    // ---- promises 4 and 5

    /** "leaf: 0 to 3" of cut. */
    private static void leafOfCutIs0To3() {
        range("P4 cut, leaf", 0, 3, (x, value) -> x.cut(value, 1));
        Fabric x = new Fabric();
        x.cut(0, 1);
        x.cut(3, 2);
        Check.due("P4 leaf 0 without spine 1", x.usable(0, 1), 13);
        Check.due("P4 leaf 3 without spine 2", x.usable(3, 1), 11);
    }

    /** "spine: 0 to 3" of cut. */
    private static void spineOfCutIs0To3() {
        range("P4 cut, spine", 0, 3, (x, value) -> x.cut(1, value));
        Fabric x = new Fabric();
        x.cut(1, 0);
        x.cut(2, 3);
        Check.due("P4 leaf 1 without spine 0", x.usable(1, 0), 14);
        Check.due("P4 leaf 2 without spine 3", x.usable(2, 0), 7);
    }

    /** "IllegalStateException if it is cut", for each connection. */
    private static void cutOfWhatIsCut() {
        for (int i = 0; i < 16; i++) {
            int leaf = i / 4;
            int spine = i % 4;
            Fabric x = new Fabric();
            x.cut(leaf, spine);
            Check.illegalState("P4 cut again " + leaf + " " + spine, x, () -> x.cut(leaf, spine));
            Check.due("P5 it is cut once", x.restore(leaf, spine), 0);
            Check.taken("P4 cut when it is restored", () -> x.cut(leaf, spine));
            for (int k = 1; k < 4; k++) {
                int next = k;
                Check.taken("P4 cut of another spine of the leaf", () -> x.cut(leaf, (spine + next) % 4));
                Check.taken("P4 cut of another leaf at the spine", () -> x.cut((leaf + next) % 4, spine));
            }
        }
        refused("P4 cut of what is cut", STATE, x -> x.cut(0, 2));
        refused("P4 cut of what else is cut", STATE, x -> x.cut(3, 1));
    }

    /** "leaf: 0 to 3" of restore. */
    private static void leafOfRestoreIs0To3() {
        range("P5 restore, leaf", 0, 3, (x, value) -> {
            if (value == 0 || value == 3) {
                x.cut(value, 1);
            }
            x.restore(value, 1);
        });
    }

    /** "spine: 0 to 3" of restore. */
    private static void spineOfRestoreIs0To3() {
        range("P5 restore, spine", 0, 3, (x, value) -> {
            if (value == 0 || value == 3) {
                x.cut(1, value);
            }
            x.restore(1, value);
        });
    }

    /** "IllegalStateException if it is not cut", for each connection, all others being cut. */
    private static void restoreOfWhatIsNotCut() {
        for (int i = 0; i < 16; i++) {
            Fabric x = new Fabric();
            for (int j = 0; j < 16; j++) {
                if (j != i) {
                    x.cut(j / 4, j % 4);
                }
            }
            int leaf = i / 4;
            int spine = i % 4;
            Check.illegalState("P5 restore of the uncut " + leaf + " " + spine, x, () -> x.restore(leaf, spine));
            Check.taken("P4 it is not cut yet", () -> x.cut(leaf, spine));
        }
        for (int i = 0; i < 16; i++) {
            int leaf = i / 4;
            int spine = i % 4;
            if (i != 2 && i != 13) {
                refused("P5 restore " + leaf + " " + spine, STATE, x -> x.restore(leaf, spine));
            }
        }
    }

    /** "if several apply, the one that it lists first is thrown": all are cut, and then none is. */
    private static void wrongPlaceComesBeforeWhatIsCut() {
        Fabric all = new Fabric();
        for (int i = 0; i < 16; i++) {
            all.cut(i / 4, i % 4);
        }
        Fabric none = new Fabric();
        for (int wrong : new int[] {-1, 4}) {
            for (int right = 0; right < 4; right++) {
                int other = right;
                Check.illegalArgument("P4 cut " + wrong + " " + other, all, () -> all.cut(wrong, other));
                Check.illegalArgument("P4 cut " + other + " " + wrong, all, () -> all.cut(other, wrong));
                Check.illegalArgument("P5 restore " + wrong + " " + other, none, () -> none.restore(wrong, other));
                Check.illegalArgument("P5 restore " + other + " " + wrong, none, () -> none.restore(other, wrong));
            }
        }
    }

    // ---- promise 6

    /** "ticks: 1 to 200". */
    private static void ticksAre1To200() {
        range("P6 pass", 1, 200, Fabric::pass);
        Fabric x = new Fabric();
        x.pass(1);
        Check.due("P7 clock behind pass(1)", x.clock(), 1);
        x.pass(200);
        Check.due("P7 clock behind pass(200)", x.clock(), 201);
    }

    private static Fabricsim at(int clock) {
        Fabricsim x = new Fabricsim();
        for (int i = 0; i < clock / 200; i++) {
            x.pass(200);
        }
        if (clock % 200 > 0) {
            x.pass(clock % 200);
        }
        return x;
    }

    private static void duePass(Fabricsim x, int ticks, String exception) {
        String what = "P6 pass(" + ticks + ") at " + x.clock();
        Check.due(what + " throws", Check.thrownBy(() -> x.pass(ticks)), exception);
    }

    /** "if more than 100000 ticks would have passed since the beginning": 100000 may pass, one more may not. */
    private static void ticksEndAt100000() {
        Fabricsim x = at(99999);
        duePass(x, 2, STATE);
        duePass(x, 1, "nothing");
        duePass(x, 1, STATE);
        Check.due("P7 clock", x.clock(), 100000);
        x.reset(0, 5, 8);
        Check.due("P2 clock behind reset", x.clock(), 0);
        duePass(x, 200, "nothing");
    }

    /** A pass that would go beyond the end lets no tick pass at all. */
    private static void refusedPassLetsNoTickPass() {
        Fabricsim x = at(99999);
        x.addFlow(0, 1, 1, 0);
        duePass(x, 2, STATE);
        Check.due("P9 sent behind the refused pass", x.sent(0), 0);
        duePass(x, 1, "nothing");
        Check.due("P9 sent in tick 99999", x.sent(0), 1);
    }

    private static void ticksReach100000InOneCall() {
        Fabricsim x = at(99801);
        duePass(x, 200, STATE);
        Check.due("P7 clock behind the refused pass", x.clock(), 99801);
        duePass(x, 199, "nothing");
        Check.due("P7 clock", x.clock(), 100000);
        Fabricsim y = at(99800);
        duePass(y, 200, "nothing");
        Check.due("P7 clock", y.clock(), 100000);
    }

    /** "if several apply, the one that it lists first is thrown". */
    private static void wrongTicksComeBeforeTheEnd() {
        Fabricsim x = at(100000);
        duePass(x, 201, ARGUMENT);
        duePass(x, 0, ARGUMENT);
        duePass(x, Integer.MAX_VALUE, ARGUMENT);
        duePass(x, 200, STATE);
        Check.due("P7 clock", x.clock(), 100000);
    }

    // ---- promises 9 to 15

    private static final String[] OF_FLOW = {"P9 sent", "P10 delivered", "P11 lost", "P12 outOfOrder", "P13 doneIn",
        "P14 flowlets", "P15 spineOf"};

    private static int ofFlow(Fabric x, int which, int flow) {
        switch (which) {
            case 0:
                return x.sent(flow);
            case 1:
                return x.delivered(flow);
            case 2:
                return x.lost(flow);
            case 3:
                return x.outOfOrder(flow);
            case 4:
                return x.doneIn(flow);
            case 5:
                return x.flowlets(flow);
            default:
                return x.spineOf(flow);
        }
    }

    /** "IndexOutOfBoundsException if there is no such flow": with n flows 0 and n - 1 are there, -1 and n are not. */
    private static void flowIsThere() {
        for (int flows : new int[] {1, 2, 23, 24}) {
            Fabric x = new Fabric();
            for (int i = 0; i < flows; i++) {
                x.addFlow(i % 16, (i + 5) % 16, 3, 0);
            }
            x.pass(2);
            for (int which = 0; which < OF_FLOW.length; which++) {
                int w = which;
                for (int there : new int[] {0, flows - 1}) {
                    Check.taken(OF_FLOW[w] + "(" + there + ") of " + flows, () -> ofFlow(x, w, there));
                }
                for (int wrong : new int[] {-1, flows, Integer.MIN_VALUE, Integer.MAX_VALUE}) {
                    Check.noSuchFlow(OF_FLOW[w] + "(" + wrong + ") of " + flows, x, () -> ofFlow(x, w, wrong));
                }
            }
        }
    }

    /** No flow: on a new object, and behind reset, whatever was there before. */
    private static void noFlowIsThere() {
        Fabric x = new Fabric();
        for (int round = 0; round < 2; round++) {
            for (int which = 0; which < OF_FLOW.length; which++) {
                int w = which;
                for (int wrong : new int[] {-1, 0, 1, 23, 24}) {
                    String what = OF_FLOW[w] + "(" + wrong + ") of none throws";
                    Check.due(what, Check.thrownBy(() -> ofFlow(x, w, wrong)), INDEX);
                }
            }
            for (int i = 0; i < 24; i++) {
                x.addFlow(i % 16, (i + 5) % 16, 3, 0);
            }
            x.pass(2);
            x.reset(0, 5, 8);
            Check.due("P8 flows behind reset", x.flows(), 0);
        }
    }

    // ---- promises 16 to 25

    /** "host: 0 to 15" of each call that asks for one. */
    private static void hostIs0To15() {
        range("P16 upQueue", 0, 15, Fabric::upQueue);
        range("P17 downQueue", 0, 15, Fabric::downQueue);
        range("P20 upCredits", 0, 15, Fabric::upCredits);
        range("P24 open", 0, 15, Fabric::open);
    }

    /** "leaf: 0 to 3", "spine: 0 to 3" of each call that asks for a link. */
    private static void leafAndSpineAre0To3() {
        range("P18 northQueue, leaf", 0, 3, (x, value) -> x.northQueue(value, 1));
        range("P18 northQueue, spine", 0, 3, (x, value) -> x.northQueue(1, value));
        range("P19 southQueue, spine", 0, 3, (x, value) -> x.southQueue(value, 1));
        range("P19 southQueue, leaf", 0, 3, (x, value) -> x.southQueue(1, value));
        range("P21 northCredits, leaf", 0, 3, (x, value) -> x.northCredits(value, 1));
        range("P21 northCredits, spine", 0, 3, (x, value) -> x.northCredits(1, value));
    }

    /** "leaf: 0 to 3", "other: 0 to 3" of usable. */
    private static void leavesOfUsableAre0To3() {
        range("P25 usable, leaf", 0, 3, (x, value) -> x.usable(value, 1));
        range("P25 usable, other", 0, 3, (x, value) -> x.usable(1, value));
    }

    /** "other: .. another leaf": each other one is taken, the leaf itself is not. */
    private static void otherLeafIsAnotherOne() {
        for (int leaf = 0; leaf < 4; leaf++) {
            int same = leaf;
            refused("P25 usable from " + leaf + " to itself", ARGUMENT, x -> x.usable(same, same));
            for (int other = 0; other < 4; other++) {
                if (other != leaf) {
                    int another = other;
                    Fabric x = new Fabric();
                    Check.taken("P25 usable " + leaf + " " + other, () -> x.usable(same, another));
                }
            }
        }
        Fabric x = new Fabric();
        for (int wrong : new int[] {-1, 4}) {
            Check.illegalArgument("P25 usable twice " + wrong, x, () -> x.usable(wrong, wrong));
        }
    }
}
