/** Promises 8 to 15: flows, sent, delivered, lost, outOfOrder, doneIn, flowlets, spineOf. */
public final class FlowsTest {
    public static void main(String[] args) {
        noSuchFlow();
        sameLeaf();
        otherLeaf();
        sentCountsLostOnes();
        outOfOrderByAnotherSpine();
        outOfOrderTwiceInARow();
        spineByTheRule();
        spineAmongUsableOnes();
        flowletsByTheGap();
        flowletsByACut();
        restoredInTimeIsNoFlowlet();
        reroutedPacketLeavesTheFlowAlone();
        firstFlowletBeginsWithTheFirstPacket();
        gapAndCutBeginOneFlowlet();
        cutOfAnotherLeafBeginsNoFlowlet();
        Check.finish("FlowsTest");
    }

    private static void noSuchFlow() {
        Fabric x = new Fabric();
        for (int round = 0; round < 3; round++) {
            int[] wrong = {-1, x.flows(), 24, Integer.MIN_VALUE, Integer.MAX_VALUE};
            for (int f : wrong) {
                Check.noSuchFlow("P9 sent " + f, x, () -> x.sent(f));
                Check.noSuchFlow("P10 delivered " + f, x, () -> x.delivered(f));
                Check.noSuchFlow("P11 lost " + f, x, () -> x.lost(f));
                Check.noSuchFlow("P12 outOfOrder " + f, x, () -> x.outOfOrder(f));
                Check.noSuchFlow("P13 doneIn " + f, x, () -> x.doneIn(f));
                Check.noSuchFlow("P14 flowlets " + f, x, () -> x.flowlets(f));
                Check.noSuchFlow("P15 spineOf " + f, x, () -> x.spineOf(f));
            }
            x.addFlow(round, 9, 1, 0);
            Check.due("P8 flows", x.flows(), round + 1);
        }
    }

    private static void sameLeaf() {
        Fabric x = new Fabric();
        x.addFlow(9, 11, 3, 0);
        dueFlow(x, "new", 0, 0, 0, 0, Fabricsim.NONE, 0, Fabricsim.NONE);
        x.pass(1);
        dueFlow(x, "tick 0", 1, 0, 0, 0, Fabricsim.NONE, 0, Fabricsim.NONE);
        x.pass(2);
        dueFlow(x, "tick 2", 3, 1, 0, 0, Fabricsim.NONE, 0, Fabricsim.NONE);
        x.pass(1);
        dueFlow(x, "tick 3", 3, 2, 0, 0, Fabricsim.NONE, 0, Fabricsim.NONE);
        x.pass(1);
        dueFlow(x, "tick 4", 3, 3, 0, 0, 4, 0, Fabricsim.NONE);
        x.pass(50);
        dueFlow(x, "later", 3, 3, 0, 0, 4, 0, Fabricsim.NONE);
    }

    /** 3*1 + 5*6 = 33 leads over spine 1. */
    private static void otherLeaf() {
        Fabric x = new Fabric();
        x.addFlow(1, 6, 2, 2);
        x.pass(2);
        dueFlow(x, "not started", 0, 0, 0, 0, Fabricsim.NONE, 0, Fabricsim.NONE);
        x.pass(1);
        dueFlow(x, "tick 2", 1, 0, 0, 0, Fabricsim.NONE, 1, 1);
        x.pass(4);
        dueFlow(x, "tick 6", 2, 1, 0, 0, Fabricsim.NONE, 1, 1);
        x.pass(1);
        dueFlow(x, "tick 7", 2, 2, 0, 0, 7, 1, 1);
    }

    private static void dueFlow(Fabric x, String when, int... want) {
        int[] got = {x.sent(0), x.delivered(0), x.lost(0), x.outOfOrder(0), x.doneIn(0), x.flowlets(0), x.spineOf(0)};
        String[] name = {"P9 sent", "P10 delivered", "P11 lost", "P12 outOfOrder", "P13 doneIn", "P14 flowlets",
            "P15 spineOf"};
        for (int i = 0; i < name.length; i++) {
            Check.due(name[i] + ", " + when, got[i], want[i]);
        }
    }

    /** 5*4 = 20 leads over spine 0; its packet is at that spine when the way down is cut. */
    private static void sentCountsLostOnes() {
        Fabric x = new Fabric();
        x.addFlow(0, 4, 1, 0);
        x.pass(2);
        Check.due("P4 cut with the packet at the spine", x.cut(1, 0), 0);
        Check.due("P24 open before the loss", x.open(4), 1);
        Check.due("P26 leastTicks before the loss", x.leastTicks(), 0);
        Check.due("P6 pass", x.pass(1), 0);
        // Lost in step 3 of tick 2, and sent again by the host in step 6 of the same tick.
        dueFlow(x, "tick 2", 2, 0, 1, 0, Fabricsim.NONE, 2, 1 + (20 + 13) % 3);
        Check.due("P24 open behind the loss", x.open(4), 1);
        Check.due("P22 returning behind the loss", x.returning(), 1);
        x.pass(4);
        dueFlow(x, "tick 6", 2, 1, 1, 0, 6, 2, 1);
    }

    /**
     * Flow 1 takes all four credits of the south link from spine 0 to leaf 1; the first comes back in tick 9.
     * Packet 0 of flow 0, sent in tick 4 over spine 0, waits for it; packet 1, sent in tick 6 (flow 2 has its
     * turn in tick 5), begins a flowlet over spine 33 mod 4 and is there first.
     */
    private static void outOfOrderByAnotherSpine() {
        Fabric x = new Fabric();
        x.reset(5, 1, 16);
        x.addFlow(0, 4, 2, 4);
        x.addFlow(8, 5, 4, 0);
        x.addFlow(0, 1, 1, 5);
        x.pass(10);
        Check.due("P15 spine of flow 1", x.spineOf(1), 0);
        Check.due("P13 doneIn of flow 1", x.doneIn(1), 7);
        dueFlow(x, "tick 9", 2, 0, 0, 0, Fabricsim.NONE, 2, 1);
        x.pass(1);
        dueFlow(x, "tick 10", 2, 1, 0, 0, Fabricsim.NONE, 2, 1);
        x.pass(1);
        dueFlow(x, "tick 11", 2, 2, 0, 1, 11, 2, 1);
        Check.due("P12 of a flow over one spine", x.outOfOrder(1), 0);
    }

    /**
     * "if a packet of the flow with a greater number was delivered earlier": flows 1 and 3 take the four credits of
     * the south link 0-1 in ticks 2 to 5, so the packets 0 and 1, sent in ticks 3 and 4, wait till ticks 9 and 10;
     * packet 2, sent in tick 6 over spine 1, is there before both, and packet 1 is late though it comes behind 0.
     */
    private static void outOfOrderTwiceInARow() {
        Fabric x = new Fabric();
        x.reset(5, 1, 16);
        x.addFlow(0, 4, 3, 3);
        x.addFlow(8, 5, 2, 0);
        x.addFlow(0, 1, 1, 5);
        x.addFlow(12, 7, 2, 0);
        x.pass(10);
        dueFlow(x, "tick 9", 3, 0, 0, 0, Fabricsim.NONE, 2, 1);
        x.pass(1);
        dueFlow(x, "tick 10", 3, 1, 0, 0, Fabricsim.NONE, 2, 1);
        x.pass(1);
        dueFlow(x, "tick 11", 3, 2, 0, 1, Fabricsim.NONE, 2, 1);
        x.pass(1);
        dueFlow(x, "tick 12", 3, 3, 0, 2, 12, 2, 1);
    }

    private static void spineByTheRule() {
        for (int i = 0; i < 24; i++) {
            Fabric x = new Fabric();
            x.reset(0, 1, 1);
            for (int f = 0; f < i; f++) {
                x.addFlow(0, 1, 1, 100);
            }
            int source = i % 16;
            int target = (5 * i + 4 + source) % 16;
            if (source / 4 == target / 4) {
                target = (target + 4) % 16;
            }
            x.addFlow(source, target, 4, 0);
            for (int k = 0; k < 4; k++) {
                x.pass(k == 0 ? 1 : 4);
                Check.due("P14 flowlets of flow " + i, x.flowlets(i), k + 1);
                Check.due("P15 spine of flow " + i + ", flowlet " + k, x.spineOf(i),
                        (7 * i + 13 * k + 3 * source + 5 * target) % 4);
            }
        }
    }

    private static void spineAmongUsableOnes() {
        for (int cuts = 0; cuts < 15; cuts++) {
            Fabric x = new Fabric();
            x.reset(0, 1, 1);
            int[] left = new int[4];
            int ways = 0;
            for (int s = 0; s < 4; s++) {
                if ((cuts >> s & 1) == 1) {
                    x.cut(s % 2 == 0 ? 0 : 3, s);
                } else {
                    left[ways++] = s;
                }
            }
            x.addFlow(2, 13, 3, 0);
            for (int k = 0; k < 3; k++) {
                x.pass(k == 0 ? 1 : 4);
                Check.due("P15 spine among " + ways, x.spineOf(0), left[(13 * k + 6 + 65) % ways]);
            }
            Check.due("P14 flowlets", x.flowlets(0), 3);
        }
    }

    /** With window 1 a packet is sent every fourth tick. */
    private static void flowletsByTheGap() {
        for (int gap = 1; gap <= 6; gap++) {
            Fabric x = new Fabric();
            x.reset(0, gap, 1);
            x.addFlow(0, 4, 5, 0);
            x.pass(30);
            Check.due("P10 delivered", x.delivered(0), 5);
            Check.due("P14 flowlets with gap " + gap, x.flowlets(0), gap < 4 ? 5 : 1);
        }
    }

    private static void flowletsByACut() {
        Fabric x = new Fabric();
        x.addFlow(0, 4, 50, 0);
        x.pass(1);
        Check.due("P15 spine", x.spineOf(0), 0);
        x.cut(0, 2);
        x.pass(1);
        Check.due("P14 a cut elsewhere", x.flowlets(0), 1);
        x.cut(1, 0);
        x.pass(1);
        Check.due("P14 a cut behind the spine", x.flowlets(0), 2);
        Check.due("P15 spine behind it", x.spineOf(0), (20 + 13) % 2 == 0 ? 1 : 3);
        x.pass(1);
        Check.due("P14 the next packet begins none", x.flowlets(0), 2);
        x.cut(0, 3);
        x.pass(1);
        Check.due("P14 a cut before the spine", x.flowlets(0), 3);
        Check.due("P15 spine, the last one", x.spineOf(0), 1);
        x.cut(1, 1);
        int sent = x.sent(0);
        x.pass(1);
        Check.due("P9 no spine, nothing is sent", x.sent(0), sent);
        Check.due("P14 no spine, no flowlet", x.flowlets(0), 3);
        Check.due("P15 no spine, the latest stays", x.spineOf(0), 1);
    }

    private static void restoredInTimeIsNoFlowlet() {
        Fabric x = new Fabric();
        x.addFlow(0, 4, 50, 0);
        x.pass(1);
        x.cut(0, 0);
        x.restore(0, 0);
        x.pass(1);
        Check.due("P9 sent", x.sent(0), 2);
        Check.due("P14 the spine is usable again", x.flowlets(0), 1);
    }

    private static void reroutedPacketLeavesTheFlowAlone() {
        Fabric x = new Fabric();
        x.addFlow(0, 4, 1, 0);
        x.pass(1);
        x.cut(1, 0);
        x.pass(1);
        Check.due("P18 the packet goes over the spine at the place 20 mod 3", x.northQueue(0, 3), 1);
        Check.due("P14 flowlets", x.flowlets(0), 1);
        Check.due("P15 spineOf", x.spineOf(0), 0);
        x.pass(3);
        Check.due("P13 doneIn", x.doneIn(0), 4);
    }

    /** "A flowlet begins with the first packet", and that is one, however late the packet is. */
    private static void firstFlowletBeginsWithTheFirstPacket() {
        for (int later : new int[] {0, 1, 100}) {
            Fabric x = new Fabric();
            x.reset(0, 1, 8);
            x.addFlow(0, 4, 1, later);
            x.pass(1 + later);
            Check.due("P14 flowlets, later " + later, x.flowlets(0), 1);
            Check.due("P15 spineOf, later " + later, x.spineOf(0), 0);
        }
    }

    /** Packet 1 is sent in tick 4, beyond the gap, and its spine is cut as well: that is one flowlet, the number 1. */
    private static void gapAndCutBeginOneFlowlet() {
        Fabric x = new Fabric();
        x.reset(0, 1, 1);
        x.addFlow(0, 4, 2, 0);
        x.pass(4);
        x.cut(0, 0);
        x.pass(1);
        Check.due("P9 sent", x.sent(0), 2);
        Check.due("P14 flowlets", x.flowlets(0), 2);
        Check.due("P15 spine at the place 33 mod 3 of 1, 2, 3", x.spineOf(0), 1);
    }

    private static void cutOfAnotherLeafBeginsNoFlowlet() {
        Fabric x = new Fabric();
        x.addFlow(0, 4, 2, 0);
        x.pass(1);
        x.cut(2, 0);
        x.cut(3, 0);
        x.pass(1);
        Check.due("P9 sent", x.sent(0), 2);
        Check.due("P14 flowlets", x.flowlets(0), 1);
        Check.due("P15 spineOf", x.spineOf(0), 0);
    }
}
