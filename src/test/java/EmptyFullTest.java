/** Empty and full: no flow and 24, a queue without packets and one of 4, no credit and 4, no room in a window. */
public final class EmptyFullTest {
    public static void main(String[] args) {
        emptyFabricLetsTicksPass();
        twentyFourFlowsOfOneHost();
        lastPacketOfAFlow();
        upAndNorthLinksHaveFourCreditsAtFirst();
        upLinkSendsFourWithoutReturn();
        northLinkSendsFourWithoutReturn();
        southLinkSendsFourWithoutReturn();
        downLinkSendsFourWithoutReturn();
        allCreditsOnTheirWayBack();
        upQueueOfFour();
        northQueueOfFour();
        southQueueOfFour();
        cutLeavesBothQueuesOfFour();
        queuesOfFourAreEmptiedInOrder();
        fullWindow();
        windowWithRoomForOne();
        noConnectionIsCut();
        allConnectionsAreCut();
        leastTicksOfNothing();
        leastTicksOfTheMost();
        leastTicksAreRoundedUp();
        Check.finish("EmptyFullTest");
    }

    private static String ticks(Fabric x, int from, int to, java.util.function.IntSupplier answer) {
        StringBuilder text = new StringBuilder();
        for (int tick = from; tick <= to; tick++) {
            x.pass(1);
            text.append(tick == from ? "" : " ").append(answer.getAsInt());
        }
        return text.toString();
    }

    // ---- flows

    /** Without flows nothing happens but that the clock goes on. */
    private static void emptyFabricLetsTicksPass() {
        Fabric x = new Fabric();
        String before = Check.look(x);
        Check.due("P6 pass without flows", x.pass(200), 0);
        Check.due("P7 clock", x.clock(), 200);
        Check.due("P6 the rest", Check.look(x).replace("clock 200", "clock 0"), before);
    }

    /** 24 flows from host 0: each has its turn, the last one too, and then the first one again. */
    private static void twentyFourFlowsOfOneHost() {
        Fabric x = new Fabric();
        x.reset(0, 5, 16);
        for (int i = 0; i < 24; i++) {
            x.addFlow(0, 1 + i % 3, 2, 0);
        }
        for (int tick = 0; tick < 48; tick++) {
            x.pass(1);
            for (int i = 0; i < 24; i++) {
                int want = tick / 24 + (i <= tick % 24 ? 1 : 0);
                Check.due("P9 sent(" + i + ") in tick " + tick, x.sent(i), want);
            }
        }
        Check.due("P6 the last two are delivered", x.pass(10), 2);
        Check.due("P13 doneIn of the last flow", x.doneIn(23), 49);
    }

    /** "the packets sent, less the lost ones, are fewer than it has to deliver"; done "when as many are delivered". */
    private static void lastPacketOfAFlow() {
        Fabric x = new Fabric();
        x.addFlow(0, 1, 3, 0);
        x.addFlow(2, 1, 1, 0);
        Check.due("P9 sent by tick", ticks(x, 0, 5, () -> x.sent(0)), "1 2 3 3 3 3");
        Check.due("P13 doneIn with all delivered", x.doneIn(0), 5);
        Fabric y = new Fabric();
        y.addFlow(0, 1, 3, 0);
        Check.due("P10 delivered by tick", ticks(y, 0, 3, () -> y.delivered(0)), "0 0 1 2");
        Check.due("P13 doneIn with one missing", y.doneIn(0), Fabricsim.NONE);
        y.pass(1);
        Check.due("P13 doneIn with none missing", y.doneIn(0), 4);
    }

    // ---- credits

    /** "credits, 4 at first". */
    private static void upAndNorthLinksHaveFourCreditsAtFirst() {
        Fabric x = new Fabric();
        for (int i = 0; i < 16; i++) {
            Check.due("P20 upCredits(" + i + ")", x.upCredits(i), 4);
            Check.due("P21 northCredits(" + i / 4 + ", " + i % 4 + ")", x.northCredits(i / 4, i % 4), 4);
        }
        Check.due("P22 returning", x.returning(), 0);
    }

    /** Credits that the up link gives away in ticks 0 to 3 leave its queue in 1 to 4, and are back from tick 7 on. */
    private static void upLinkSendsFourWithoutReturn() {
        Fabric x = new Fabric();
        x.reset(5, 5, 16);
        x.addFlow(0, 1, 50, 0);
        Check.due("P20 upCredits by tick", ticks(x, 0, 7, () -> x.upCredits(0)), "3 2 1 0 0 0 0 0");
        Fabric y = new Fabric();
        y.reset(5, 5, 16);
        y.addFlow(0, 1, 50, 0);
        Check.due("P9 sent by tick", ticks(y, 0, 11, () -> y.sent(0)), "1 2 3 4 4 4 4 5 6 7 8 8");
    }

    private static Fabric northIsTheLimit() {
        Fabric x = new Fabric();
        x.reset(5, 5, 16);
        Scenes.onlySpine0(x);
        x.addFlow(0, 4, 50, 0);
        x.addFlow(1, 8, 50, 0);
        return x;
    }

    /** Two hosts send over the north link 0-0: it takes 4 in ticks 1 to 4, and the next one in tick 2 + 6. */
    private static void northLinkSendsFourWithoutReturn() {
        Fabric x = northIsTheLimit();
        Check.due("P21 northCredits by tick", ticks(x, 0, 8, () -> x.northCredits(0, 0)), "4 3 2 1 0 0 0 0 0");
        Fabric y = northIsTheLimit();
        Check.due("P16 both up queues by tick", ticks(y, 0, 6, () -> y.upQueue(0) + y.upQueue(1)), "2 3 4 5 4 4 4");
        y.pass(1);
        int sentIn7 = y.sent(0) + y.sent(1) - 8;
        Check.due("P16 one more for each one sent in tick 7", y.upQueue(0) + y.upQueue(1), 4 + sentIn7);
        int before = y.upQueue(0) + y.upQueue(1) - y.sent(0) - y.sent(1);
        y.pass(1);
        Check.due("P16 one leaves in tick 8", y.upQueue(0) + y.upQueue(1) - y.sent(0) - y.sent(1), before - 1);
    }

    /**
     * Two leaves send over one spine to two hosts of a third leaf: the south link takes 4 in ticks 2 to 5; the first
     * leaves its queue in tick 3, so the next one is taken in tick 3 + 6. The same of each south link.
     */
    private static void southLinkSendsFourWithoutReturn() {
        for (int i = 0; i < 16; i++) {
            int spine = i / 4;
            int leaf = i % 4;
            int one = (leaf + 1) % 4;
            int other = (leaf + 2) % 4;
            Fabric x = new Fabric();
            x.reset(5, 5, 16);
            Scenes.onlySpine(x, spine);
            x.addFlow(4 * one, 4 * leaf, 4, 0);
            x.addFlow(4 * other, 4 * leaf + 1, 4, 0);
            Check.due("P18 both north queues by tick, south link " + spine + " " + leaf,
                    ticks(x, 0, 10, () -> x.northQueue(one, spine) + x.northQueue(other, spine)),
                    "0 2 3 4 5 4 4 4 4 3 2");
        }
    }

    /** Two hosts send to a third one: its down link takes 4 in ticks 1 to 4, and the next one in tick 2 + 6. */
    private static void downLinkSendsFourWithoutReturn() {
        for (int host = 0; host < 16; host++) {
            int target = host;
            Fabric x = new Fabric();
            x.reset(5, 5, 16);
            x.addFlow(host / 4 * 4 + (host + 1) % 4, host, 4, 0);
            x.addFlow(host / 4 * 4 + (host + 2) % 4, host, 4, 0);
            Check.due("P17 downQueue(" + host + ") by tick", ticks(x, 0, 12, () -> x.downQueue(target)),
                    "0 1 1 1 1 0 0 0 1 1 1 1 0");
        }
    }

    /** No credit, and an empty queue: all 4 of the up link and all 4 of the down link are on their way back. */
    private static void allCreditsOnTheirWayBack() {
        Fabric x = new Fabric();
        x.reset(5, 5, 16);
        x.addFlow(0, 1, 50, 0);
        x.pass(6);
        Check.due("P20 upCredits", x.upCredits(0), 0);
        Check.due("P23 queued", x.queued(), 0);
        Check.due("P22 returning", x.returning(), 8);
    }

    // ---- queues

    /** The first packet has no spine, so those behind it wait; with 4 in the queue the host sends no more. */
    private static void upQueueOfFour() {
        Fabric x = new Fabric();
        x.addFlow(0, 4, 1, 0);
        x.addFlow(0, 1, 50, 0);
        x.pass(1);
        for (int s = 0; s < 4; s++) {
            x.cut(1, s);
        }
        Check.due("P16 upQueue by tick", ticks(x, 1, 5, () -> x.upQueue(0)), "2 3 4 4 4");
        Check.due("P20 upCredits", x.upCredits(0), 0);
        Check.due("P9 sent", x.sent(1), 3);
        Check.due("P22 returning", x.returning(), 0);
        x.restore(1, 2);
        x.pass(1);
        Check.due("P16 upQueue when the first one has left", x.upQueue(0), 3);
        Check.due("P20 its credit is on its way", x.upCredits(0), 0);
        Check.due("P9 nothing is sent without a credit", x.sent(1), 3);
        x.pass(1);
        Check.due("P9 sent with the credit that is back", x.sent(1), 4);
        Check.due("P16 upQueue when one left and one came", x.upQueue(0), 3);
    }

    /** Three leaves send over spine 0 to two hosts of leaf 1: more comes to the spine than the south link takes. */
    private static Fabric northQueuesFillUp() {
        Fabric x = new Fabric();
        x.reset(0, 5, 16);
        Scenes.onlySpine0(x);
        x.addFlow(0, 4, 50, 0);
        x.addFlow(8, 5, 50, 0);
        x.addFlow(12, 4, 50, 0);
        return x;
    }

    private static void northQueueOfFour() {
        Fabric x = northQueuesFillUp();
        int most = 0;
        for (int tick = 0; tick < 60; tick++) {
            x.pass(1);
            for (int leaf : new int[] {0, 2, 3}) {
                int queue = x.northQueue(leaf, 0);
                most = Math.max(most, queue);
                if (queue == 4) {
                    Check.due("P21 northCredits beside a queue of 4", x.northCredits(leaf, 0), 0);
                }
            }
        }
        Check.due("P18 the longest north queue", most, 4);
    }

    /** Spines 0 and 1 send to host 0, whose down link takes fewer than they bring. */
    private static Fabric southQueuesFillUp() {
        Fabric x = new Fabric();
        x.reset(0, 5, 16);
        for (int s = 1; s < 4; s++) {
            x.cut(1, s);
            x.cut(3, s);
        }
        x.cut(2, 0);
        x.cut(2, 2);
        x.cut(2, 3);
        x.addFlow(4, 0, 100, 0);
        x.addFlow(8, 0, 100, 0);
        return x;
    }

    private static void southQueueOfFour() {
        Fabric x = southQueuesFillUp();
        int most = 0;
        for (int tick = 0; tick < 60; tick++) {
            x.pass(1);
            most = Math.max(most, x.southQueue(0, 0));
        }
        Check.due("P19 the longest south queue", most, 4);
    }

    /**
     * "what is in their queues stays": at both ends of the connection 0-0 the hosts 0 and 12 take packets of their
     * own leaf as well, so those that come over it jam; a cut answers 4 + 4, and they are there behind it.
     */
    private static void cutLeavesBothQueuesOfFour() {
        Fabric x = new Fabric();
        x.reset(0, 5, 16);
        Scenes.onlySpine0(x);
        x.addFlow(4, 0, 100, 1);
        x.addFlow(2, 0, 100, 1);
        x.addFlow(1, 12, 100, 0);
        x.addFlow(13, 12, 100, 0);
        x.pass(14);
        Check.due("P18 north queue", x.northQueue(0, 0), 4);
        Check.due("P19 south queue", x.southQueue(0, 0), 4);
        int queued = x.queued();
        Check.due("P4 cut", x.cut(0, 0), 8);
        Check.due("P18 north queue behind the cut", x.northQueue(0, 0), 4);
        Check.due("P19 south queue behind the cut", x.southQueue(0, 0), 4);
        Check.due("P23 queued behind the cut", x.queued(), queued);
        Check.due("P25 no spine is left", x.usable(0, 3), 0);
    }

    /** Full queues hand on what came first, however often they go round: over one path nothing is out of order. */
    private static void queuesOfFourAreEmptiedInOrder() {
        Fabric x = northQueuesFillUp();
        x.pass(200);
        x.pass(200);
        for (int f = 0; f < 3; f++) {
            Check.due("P10 delivered(" + f + ")", x.delivered(f), 50);
            Check.due("P12 outOfOrder(" + f + ")", x.outOfOrder(f), 0);
        }
    }

    // ---- windows

    /** "fewer open packets than the window": with 3 of 3 open nothing is sent, till one is delivered in tick 2. */
    private static void fullWindow() {
        Fabric x = new Fabric();
        x.reset(0, 5, 3);
        x.addFlow(0, 12, 50, 0);
        Check.due("P24 open by tick", ticks(x, 0, 3, () -> x.open(12)), "1 2 3 3");
        Check.due("P9 sent with a full window", x.sent(0), 3);
        x.pass(1);
        Check.due("P10 the first one is delivered in tick 4", x.delivered(0), 1);
        Check.due("P9 and one is sent in tick 4", x.sent(0), 4);
        Check.due("P24 the window is full again", x.open(12), 3);
    }

    /** One place is left in the window: of two hosts in the same tick the lower one takes it. */
    private static void windowWithRoomForOne() {
        Fabric x = new Fabric();
        x.reset(0, 5, 3);
        x.addFlow(0, 12, 2, 0);
        x.addFlow(5, 12, 1, 2);
        x.addFlow(4, 12, 1, 2);
        x.pass(2);
        Check.due("P24 open with room for one", x.open(12), 2);
        x.pass(1);
        Check.due("P24 open without room", x.open(12), 3);
        Check.due("P9 sent by host 4", x.sent(2), 1);
        Check.due("P9 sent by host 5", x.sent(1), 0);
    }

    // ---- connections

    /** All spines are usable from each leaf to each other one. */
    private static void noConnectionIsCut() {
        Fabric x = new Fabric();
        for (int leaf = 0; leaf < 4; leaf++) {
            for (int other = 0; other < 4; other++) {
                if (leaf != other) {
                    Check.due("P25 usable " + leaf + " " + other, x.usable(leaf, other), 15);
                }
            }
        }
    }

    /** No spine is usable, nothing leaves a leaf, and what stays at a leaf goes on. */
    private static void allConnectionsAreCut() {
        Fabric x = new Fabric();
        for (int i = 0; i < 16; i++) {
            x.cut(i / 4, i % 4);
        }
        x.addFlow(0, 4, 3, 0);
        x.addFlow(0, 1, 3, 0);
        for (int leaf = 0; leaf < 4; leaf++) {
            for (int other = 0; other < 4; other++) {
                if (leaf != other) {
                    Check.due("P25 usable " + leaf + " " + other, x.usable(leaf, other), 0);
                }
            }
        }
        Check.due("P26 leastTicks", x.leastTicks(), Fabricsim.NONE);
        Check.due("P6 pass", x.pass(50), 3);
        Check.due("P9 sent to another leaf", x.sent(0), 0);
        Check.due("P14 flowlets", x.flowlets(0), 0);
        Check.due("P15 spineOf", x.spineOf(0), Fabricsim.NONE);
        Check.due("P13 doneIn at the same leaf", x.doneIn(1), 4);
        Check.due("P5 restore of the first of 16", x.restore(0, 0), 15);
        Check.due("P25 connected with one leaf only", x.usable(0, 1), 0);
        Check.due("P5 restore of the second", x.restore(1, 0), 14);
        Check.due("P25 connected with both", x.usable(0, 1), 1);
        Check.due("P6 all three", x.pass(50), 3);
    }

    // ---- the least ticks

    /** "0 if there are none to send": no flow, or all sent. */
    private static void leastTicksOfNothing() {
        Fabric x = new Fabric();
        Check.due("P26 without flows", x.leastTicks(), 0);
        x.addFlow(0, 4, 1, 0);
        Check.due("P26 with one packet", x.leastTicks(), 1);
        x.pass(1);
        Check.due("P26 with all sent", x.leastTicks(), 0);
        for (int s = 0; s < 4; s++) {
            x.cut(0, s);
        }
        Check.due("P26 with all sent, and a leaf without connections", x.leastTicks(), 0);
    }

    /** 24 flows of 100 packets: from one host, to one host, out of one leaf over one connection, and into one. */
    private static void leastTicksOfTheMost() {
        Fabric from = new Fabric();
        Fabric to = new Fabric();
        Fabric out = new Fabric();
        Fabric in = new Fabric();
        for (int s = 0; s < 3; s++) {
            out.cut(1, s);
            in.cut(1, s);
        }
        for (int i = 0; i < 24; i++) {
            from.addFlow(15, i % 15, 100, 100);
            to.addFlow(i % 15, 15, 100, 100);
            out.addFlow(4 + i % 4, 8 + i % 8, 100, 100);
            in.addFlow(8 + i % 8, 4 + i % 4, 100, 100);
        }
        Check.due("P26 all from host 15", from.leastTicks(), 2400);
        Check.due("P26 all to host 15", to.leastTicks(), 2400);
        Check.due("P26 all out of leaf 1 over one", out.leastTicks(), 2400);
        Check.due("P26 all into leaf 1 over one", in.leastTicks(), 2400);
    }

    /** "divided by the number of its uncut connections, rounded up": at a multiple, and on both sides of it. */
    private static void leastTicksAreRoundedUp() {
        int[] others = {0, 4, 5, 12};
        for (int packets = 5; packets <= 13; packets++) {
            for (int ways = 1; ways <= 4; ways++) {
                Fabric out = new Fabric();
                Fabric in = new Fabric();
                for (int s = ways; s < 4; s++) {
                    out.cut(2, s);
                    in.cut(2, s);
                }
                for (int i = 0; i < 4; i++) {
                    int share = packets / 4 + (i < packets % 4 ? 1 : 0);
                    out.addFlow(8 + i, others[i], share, 0);
                    in.addFlow(others[i], 8 + i, share, 0);
                }
                int byHost = (packets + 3) / 4;
                int byLeaf = packets / ways + (packets % ways > 0 ? 1 : 0);
                String what = packets + " over " + ways;
                Check.due("P26 out of leaf 2, " + what, out.leastTicks(), Math.max(byHost, byLeaf));
                Check.due("P26 into leaf 2, " + what, in.leastTicks(), Math.max(byHost, byLeaf));
            }
        }
    }
}
