/** Promises 1 to 8: a new object, reset, addFlow, cut, restore, pass, clock, flows. */
public final class SetupTest {
    private static final int[] FAR = {Integer.MIN_VALUE, Integer.MAX_VALUE};

    public static void main(String[] args) {
        newObject();
        newObjectHasDelay0();
        newObjectHasGap5();
        newObjectHasWindow8();
        resetBeginsAnew();
        resetSetsAllThreeAnew();
        resetForgetsWhatWasPicked();
        resetForgetsWhatIsBusy();
        resetForgetsTheOldFlows();
        resetForgetsReturningCredits();
        resetRefuses();
        addFlowNumbers();
        addFlowRefuses();
        addFlowStartsLater();
        cutAnswers();
        restoreAnswers();
        restoredConnectionsCarryAgain();
        passAnswers();
        passRefuses();
        Check.finish("SetupTest");
    }

    private static void newObject() {
        Fabric x = new Fabric();
        Check.due("P1 flows", x.flows(), 0);
        Check.due("P1 clock", x.clock(), 0);
        Check.due("P1 queued", x.queued(), 0);
        Check.due("P1 returning", x.returning(), 0);
        Check.due("P1 leastTicks", x.leastTicks(), 0);
        Check.due("P1 state", Check.look(x), new Model(0, 5, 8).look());
    }

    private static void newObjectHasDelay0() {
        Fabric x = new Fabric();
        x.addFlow(0, 1, 1, 0);
        x.pass(2);
        Check.due("P1 credits in the tick of leaving", x.upCredits(0), 3);
        x.pass(1);
        Check.due("P1 credits a tick later", x.upCredits(0), 4);
    }

    /** Flow 0 and others of its host take turns, so flow 0 sends in tick 0 and in tick "flows". */
    private static int flowletsAmong(Fabric x, int flows) {
        x.addFlow(0, 4, 2, 0);
        for (int i = 1; i < flows; i++) {
            x.addFlow(0, 1, 2, 0);
        }
        x.pass(flows + 1);
        Check.due("sent(0) among " + flows, x.sent(0), 2);
        return x.flowlets(0);
    }

    private static void newObjectHasGap5() {
        Check.due("P1 flowlets 5 ticks behind", flowletsAmong(new Fabric(), 5), 1);
        Check.due("P1 flowlets 6 ticks behind", flowletsAmong(new Fabric(), 6), 2);
    }

    private static void newObjectHasWindow8() {
        Fabric x = new Fabric();
        for (int h = 0; h < 9; h++) {
            x.addFlow(h, 15, 1, 0);
        }
        x.pass(1);
        Check.due("P1 open", x.open(15), 8);
        Check.due("P1 sent by the eighth host", x.sent(7), 1);
        Check.due("P1 sent by the ninth host", x.sent(8), 0);
    }

    private static void resetBeginsAnew() {
        Fabric x = new Fabric();
        for (int h = 0; h < 8; h++) {
            x.addFlow(h, 15 - h, 50, 0);
        }
        x.cut(0, 0);
        x.cut(3, 2);
        x.pass(9);
        x.reset(0, 5, 8);
        Check.due("P2 state", Check.look(x), Check.look(new Fabric()));
        Check.due("P2 nothing is cut", Check.thrownBy(() -> x.restore(0, 0)), "IllegalStateException");
        Check.due("P2 sent", Check.thrownBy(() -> x.sent(0)), "IndexOutOfBoundsException");
        Check.due("P2 addFlow", x.addFlow(0, 1, 1, 0), 0);
        x.reset(5, 50, 16);
        x.reset(0, 1, 1);
        Check.due("P2 edges", Check.look(x), Check.look(new Fabric()));
    }

    private static String afterRun(Fabric x) {
        for (int h = 1; h < 16; h++) {
            x.addFlow(h, 0, 100, h);
        }
        x.addFlow(0, 9, 3, 0);
        x.addFlow(0, 1, 3, 0);
        x.pass(40);
        return Check.look(x);
    }

    /** From one end of each range to the other and back: what was set before does not show. */
    private static void resetSetsAllThreeAnew() {
        int[][] all = {{0, 1, 1}, {5, 1, 1}, {0, 50, 1}, {0, 1, 16}, {5, 50, 16}, {0, 5, 8}};
        for (int[] before : all) {
            for (int[] now : all) {
                Fabric x = new Fabric();
                x.reset(before[0], before[1], before[2]);
                x.reset(now[0], now[1], now[2]);
                Fabric y = new Fabric();
                y.reset(now[0], now[1], now[2]);
                Check.due("P2 the run behind two resets", afterRun(x), afterRun(y));
            }
        }
    }

    /** Packets in all kinds of queues, credits on their way, turns, cuts, flows: nothing of it is left. */
    private static void resetForgetsWhatIsBusy() {
        for (int kind = 0; kind < Scenes.BUSY; kind++) {
            Fabric x = Scenes.busy(kind);
            x.reset(2, 3, 16);
            Fabric y = new Fabric();
            y.reset(2, 3, 16);
            Check.due("P2 the state", Check.look(x), Check.look(y));
            for (int i = 23; i >= 0; i--) {
                int target = (5 * i + 6) % 16 == i % 16 ? 1 : (5 * i + 6) % 16 / 2;
                target = target == i % 16 ? 15 : target;
                x.addFlow(i % 16, target, 100, 0);
                y.addFlow(i % 16, target, 100, 0);
            }
            for (int tick = 0; tick < 20; tick++) {
                Check.due("P2 passed", x.pass(1), y.pass(1));
                Check.due("P2 the state behind tick " + tick, Check.look(x), Check.look(y));
            }
        }
    }

    private static void resetForgetsWhatWasPicked() {
        Fabric x = new Fabric();
        x.addFlow(0, 2, 1, 0);
        x.pass(20);
        x.reset(0, 5, 8);
        x.addFlow(0, 2, 1, 0);
        x.addFlow(1, 2, 1, 0);
        x.pass(3);
        Check.due("P2 the first queue is picked first", x.delivered(0), 1);
        Check.due("P2 the second queue comes behind it", x.delivered(1), 0);

        Fabric y = new Fabric();
        y.addFlow(0, 2, 1, 0);
        y.pass(20);
        y.reset(0, 5, 8);
        y.addFlow(0, 2, 1, 0);
        y.addFlow(0, 3, 1, 0);
        y.pass(1);
        Check.due("P2 the lowest flow is picked first", y.sent(0), 1);
        Check.due("P2 the second flow comes behind it", y.sent(1), 0);
    }

    /** Flows that were lost, late and spread over flowlets leave nothing to the flows added behind reset. */
    private static void resetForgetsTheOldFlows() {
        Fabric x = new Fabric();
        x.reset(5, 1, 16);
        lossyRun(x);
        boolean marked = x.lost(0) > 0 && x.outOfOrder(0) > 0 && x.flowlets(0) > 1;
        Check.due("P2 lost, late and flowlets before", marked ? 1 : 0, 1);
        x.reset(5, 1, 16);
        x.addFlow(0, 12, 100, 0);
        Fabric y = new Fabric();
        y.reset(5, 1, 16);
        y.addFlow(0, 12, 100, 0);
        Check.due("P2 the flow begins anew", Check.look(x), Check.look(y));
        Check.due("P2 doneIn", x.doneIn(0), Fabricsim.NONE);
        Check.due("P2 spineOf", x.spineOf(0), Fabricsim.NONE);
        Check.due("P2 what was counted", x.sent(0) + x.delivered(0) + x.lost(0) + x.outOfOrder(0) + x.flowlets(0), 0);
        x.reset(5, 1, 16);
        lossyRun(x);
        Fabric z = new Fabric();
        z.reset(5, 1, 16);
        lossyRun(z);
        Check.due("P2 the same run again", Check.look(x), Check.look(z));
    }

    private static void lossyRun(Fabric x) {
        x.addFlow(0, 12, 100, 0);
        x.addFlow(4, 12, 100, 0);
        x.addFlow(8, 12, 100, 0);
        x.pass(8);
        x.cut(3, 0);
        x.cut(3, 1);
        x.cut(3, 2);
        x.pass(5);
        x.cut(3, 3);
        x.pass(30);
        x.restore(3, 1);
        x.restore(3, 0);
        x.pass(100);
    }

    private static void resetForgetsReturningCredits() {
        Fabric x = new Fabric();
        x.reset(5, 5, 8);
        x.addFlow(0, 1, 4, 0);
        x.pass(4);
        Check.due("P2 returning before", x.returning() > 0 ? 1 : 0, 1);
        x.reset(5, 5, 8);
        Check.due("P2 returning", x.returning(), 0);
        x.pass(10);
        Check.due("P2 credits", x.upCredits(0), 4);
    }

    private static void resetRefuses() {
        Fabric x = new Fabric();
        x.addFlow(0, 5, 9, 0);
        x.pass(3);
        int[][] wrong = {{-1, 1, 1}, {6, 1, 1}, {0, 0, 1}, {0, 51, 1}, {0, 1, 0}, {0, 1, 17}};
        for (int[] w : wrong) {
            Check.illegalArgument("P2 reset " + w[0] + " " + w[1] + " " + w[2], x, () -> x.reset(w[0], w[1], w[2]));
        }
        for (int far : FAR) {
            Check.illegalArgument("P2 reset far delay", x, () -> x.reset(far, 1, 1));
            Check.illegalArgument("P2 reset far gap", x, () -> x.reset(0, far, 1));
            Check.illegalArgument("P2 reset far window", x, () -> x.reset(0, 1, far));
        }
        refusedResetKeepsSettings();
    }

    private static void refusedResetKeepsSettings() {
        Fabric y = new Fabric();
        Check.illegalArgument("P2 reset with a wrong window", y, () -> y.reset(5, 1, 17));
        Check.illegalArgument("P2 reset with a wrong gap", y, () -> y.reset(5, 51, 1));
        Check.due("P2 the gap is kept", flowletsAmong(y, 5), 1);
        Fabric z = new Fabric();
        Check.illegalArgument("P2 reset with a wrong delay", z, () -> z.reset(6, 1, 1));
        for (int h = 0; h < 9; h++) {
            z.addFlow(h, 15, 1, 0);
        }
        z.pass(1);
        Check.due("P2 the window is kept", z.open(15), 8);
        z.pass(2);
        Check.due("P2 the delay is kept", z.upCredits(4), 4);
    }

    private static void addFlowNumbers() {
        Fabric x = new Fabric();
        for (int i = 0; i < 24; i++) {
            Check.due("P3 addFlow", x.addFlow(i % 16, (i + 1) % 16, i % 2 == 0 ? 1 : 100, i % 3 == 0 ? 100 : 0), i);
            Check.due("P8 flows", x.flows(), i + 1);
        }
        Check.illegalState("P3 a 25th flow", x, () -> x.addFlow(0, 1, 1, 0));
        Check.illegalArgument("P3 a wrong 25th flow", x, () -> x.addFlow(0, 0, 1, 0));
        Check.illegalArgument("P3 a 25th flow of 0 packets", x, () -> x.addFlow(0, 1, 0, 0));
        Check.illegalArgument("P3 a 25th flow too late", x, () -> x.addFlow(0, 1, 1, 101));
        x.pass(200);
        Check.illegalState("P3 a 25th flow when some are done", x, () -> x.addFlow(0, 1, 1, 0));
        x.reset(0, 1, 1);
        Check.due("P3 addFlow behind reset", x.addFlow(0, 1, 1, 0), 0);
    }

    private static void addFlowRefuses() {
        Fabric x = new Fabric();
        int[][] wrong = {
            {-1, 0, 1, 0}, {16, 0, 1, 0}, {0, -1, 1, 0}, {0, 16, 1, 0}, {0, 0, 1, 0}, {15, 15, 1, 0},
            {0, 1, 0, 0}, {0, 1, -1, 0}, {0, 1, 101, 0}, {0, 1, 1, -1}, {0, 1, 1, 101}, {-1, -1, 1, 0},
            {FAR[0], 1, 1, 0}, {FAR[1], 1, 1, 0}, {0, FAR[0], 1, 0}, {0, FAR[1], 1, 0},
            {0, 1, FAR[0], 0}, {0, 1, FAR[1], 0}, {0, 1, 1, FAR[0]}, {0, 1, 1, FAR[1]},
        };
        for (int[] w : wrong) {
            Check.illegalArgument("P3 addFlow " + w[0] + " " + w[1] + " " + w[2] + " " + w[3], x,
                    () -> x.addFlow(w[0], w[1], w[2], w[3]));
        }
        Check.due("P3 the first right one", x.addFlow(15, 0, 100, 100), 0);
    }

    private static void addFlowStartsLater() {
        Fabric x = new Fabric();
        x.pass(7);
        x.addFlow(0, 1, 1, 0);
        x.addFlow(2, 3, 1, 1);
        x.addFlow(4, 5, 1, 100);
        x.pass(1);
        Check.due("P3 with 0 in the next tick", x.sent(0), 1);
        Check.due("P3 with 1 not in the next tick", x.sent(1), 0);
        x.pass(1);
        Check.due("P3 with 1 a tick behind", x.sent(1), 1);
        x.pass(98);
        Check.due("P3 with 100 not yet", x.sent(2), 0);
        x.pass(1);
        Check.due("P3 with 100", x.sent(2), 1);
        Check.due("P3 clock", x.clock(), 108);
    }

    private static void cutAnswers() {
        Fabric x = new Fabric();
        Check.due("P4 cut with empty queues", x.cut(2, 3), 0);
        Check.due("P4 usable to leaf 2", x.usable(0, 2), 7);
        Check.due("P4 usable from leaf 2", x.usable(2, 1), 7);
        Check.due("P4 usable without leaf 2", x.usable(0, 1), 15);
        Check.illegalState("P4 cut again", x, () -> x.cut(2, 3));
        for (int w : new int[] {-1, 4, FAR[0], FAR[1]}) {
            Check.illegalArgument("P4 cut leaf " + w, x, () -> x.cut(w, 0));
            Check.illegalArgument("P4 cut spine " + w, x, () -> x.cut(0, w));
            Check.illegalArgument("P5 restore leaf " + w, x, () -> x.restore(w, 0));
            Check.illegalArgument("P5 restore spine " + w, x, () -> x.restore(0, w));
        }
        cutCountsBothQueues();
    }

    /** 3*0 + 5*4 = 20 leads flow 0 over spine 0; 7 + 3*4 + 5*1 = 24 leads flow 1 back over it. */
    private static void cutCountsBothQueues() {
        Fabric x = new Fabric();
        x.addFlow(0, 4, 2, 0);
        x.addFlow(4, 1, 1, 0);
        x.pass(3);
        Check.due("P4 spine of flow 0", x.spineOf(0), 0);
        Check.due("P4 spine of flow 1", x.spineOf(1), 0);
        Check.due("P4 north", x.northQueue(0, 0), 1);
        Check.due("P4 south", x.southQueue(0, 0), 1);
        Check.due("P4 cut with a packet in each queue", x.cut(0, 0), 2);
        Check.due("P4 cut on the other side", x.cut(1, 0), 1);
    }

    private static void restoreAnswers() {
        Fabric x = new Fabric();
        Check.illegalState("P5 restore of what is uncut", x, () -> x.restore(1, 1));
        x.cut(1, 1);
        x.cut(1, 2);
        x.cut(3, 0);
        Check.illegalState("P5 restore of what is uncut beside cuts", x, () -> x.restore(2, 1));
        Check.due("P5 restore", x.restore(1, 2), 2);
        Check.due("P5 usable", x.usable(1, 0), 13);
        Check.due("P5 usable beside", x.usable(3, 0), 14);
        Check.illegalState("P5 restore again", x, () -> x.restore(1, 2));
        Check.due("P5 restore", x.restore(3, 0), 1);
        Check.due("P5 restore of the last", x.restore(1, 1), 0);
        Check.due("P5 cut after restore", x.cut(1, 1), 0);
        Fabric y = new Fabric();
        for (int i = 0; i < 16; i++) {
            y.cut(i / 4, i % 4);
        }
        for (int i = 0; i < 16; i++) {
            Check.due("P5 restore of all", y.restore(i / 4, i % 4), 15 - i);
        }
        Check.due("P5 state", Check.look(y), Check.look(new Fabric()));
    }

    private static void restoredConnectionsCarryAgain() {
        Fabric x = new Fabric();
        x.cut(0, 0);
        x.cut(1, 0);
        x.cut(2, 3);
        Check.due("P5 restore beside others", x.restore(1, 0), 2);
        Check.due("P5 restore beside another", x.restore(0, 0), 1);
        x.addFlow(0, 4, 1, 0);
        x.addFlow(4, 0, 1, 0);
        Check.due("P5 pass", x.pass(5), 2);
        Check.due("P5 spine of flow 0", x.spineOf(0), 0);
        Check.due("P5 lost", x.lost(0) + x.lost(1), 0);
        x.cut(0, 0);
        Check.due("P5 the first connection is counted", x.restore(2, 3), 1);
    }

    private static void passAnswers() {
        Fabric x = new Fabric();
        x.addFlow(0, 1, 3, 0);
        x.addFlow(4, 5, 1, 1);
        Check.due("P6 tick 0", x.pass(1), 0);
        Check.due("P7 clock", x.clock(), 1);
        Check.due("P6 tick 1", x.pass(1), 0);
        Check.due("P6 tick 2", x.pass(1), 1);
        Check.due("P6 tick 3", x.pass(1), 2);
        Check.due("P6 the others", x.pass(200), 1);
        Check.due("P7 clock", x.clock(), 204);
        Check.due("P6 none left", x.pass(200), 0);
        onePassIsManyTicks();
    }

    private static void onePassIsManyTicks() {
        Fabric x = new Fabric();
        Fabric y = new Fabric();
        for (int h = 0; h < 16; h++) {
            x.addFlow(h, (5 * h + 3) % 16, 40, h % 3);
            y.addFlow(h, (5 * h + 3) % 16, 40, h % 3);
        }
        int sum = 0;
        for (int i = 0; i < 60; i++) {
            sum += y.pass(1);
        }
        Check.due("P6 pass(60)", x.pass(60), sum);
        Check.due("P6 state", Check.look(x), Check.look(y));
    }

    private static void passRefuses() {
        Fabric x = new Fabric();
        x.addFlow(0, 5, 9, 0);
        for (int w : new int[] {0, -1, 201, FAR[0], FAR[1]}) {
            Check.illegalArgument("P6 pass " + w, x, () -> x.pass(w));
        }
    }
}
