/** What the terms say of a tick, where the order of its steps or of its queues shows. */
public final class TickTest {
    public static void main(String[] args) {
        queuesTakeTurnsAtALeaf();
        firstPacketBlocksTheQueue();
        southQueuesComeBehindUpQueues();
        queuesTakeTurnsAtASpine();
        flowsTakeTurnsAtAHost();
        flowsThatCannotSendArePassedOver();
        windowCountsThePicksOfThisTick();
        deliveredMakesRoomInTheSameTick();
        lostMakesRoomInTheSameTick();
        oneLostOfEachQueue();
        theNextOneMovesBehindALostOne();
        waitsWithoutASpine();
        keepsItsSpineIfRestored();
        cutKeepsWhatIsQueued();
        flowletOfThePacketChoosesTheSpine();
        eachHostTakesOnePacket();
        onePacketOfAQueueLeavesInATick();
        picksDoNotSeeEachOther();
        hostUsesTheCreditThatIsBack();
        linkUsesTheCreditThatIsBack();
        Check.finish("TickTest");
    }

    private static String delivered(Fabric x) {
        StringBuilder text = new StringBuilder();
        for (int f = 0; f < x.flows(); f++) {
            text.append(f == 0 ? "" : " ").append(x.delivered(f));
        }
        return text.toString();
    }

    private static void queuesTakeTurnsAtALeaf() {
        Fabric x = new Fabric();
        x.addFlow(2, 1, 2, 0);
        x.addFlow(0, 1, 2, 0);
        x.addFlow(3, 1, 2, 0);
        x.pass(2);
        String[] want = {"0 1 0", "1 1 0", "1 1 1", "1 2 1", "2 2 1", "2 2 2"};
        for (String w : want) {
            x.pass(1);
            Check.due("delivered behind tick " + (x.clock() - 1), delivered(x), w);
        }
    }

    /**
     * "whose first packet wants the link": the second packet of flow 0 waits for its turn behind the hosts 2 and 3
     * till tick 4, and flow 1, behind it in the queue from tick 2 on, can't go down to host 3, which is free.
     */
    private static void firstPacketBlocksTheQueue() {
        Fabric x = new Fabric();
        x.addFlow(0, 1, 2, 0);
        x.addFlow(0, 3, 1, 2);
        x.addFlow(2, 1, 1, 0);
        x.addFlow(3, 1, 1, 0);
        x.pass(3);
        Check.due("up queue of host 0: flow 0, and flow 1 behind it", x.upQueue(0), 2);
        x.pass(1);
        Check.due("up queue of host 0 behind tick 3", x.upQueue(0), 2);
        Check.due("down queue of host 3", x.downQueue(3), 0);
        String[] want = {"1 0 1 1", "2 0 1 1", "2 1 1 1"};
        for (String w : want) {
            x.pass(1);
            Check.due("delivered behind tick " + (x.clock() - 1), delivered(x), w);
        }
    }

    /** Packets for host 4 from its own leaf (up queues) and from spines 0 and 3 (south queues) at once. */
    private static void southQueuesComeBehindUpQueues() {
        Fabric x = new Fabric();
        x.addFlow(0, 4, 1, 0);
        x.addFlow(8, 4, 1, 0);
        x.addFlow(7, 4, 1, 2);
        x.addFlow(5, 4, 1, 2);
        Check.due("pass", x.pass(3), 0);
        Check.due("spine of flow 0", x.spineOf(0), 0);
        Check.due("spine of flow 1", x.spineOf(1), 3);
        Check.due("south 0", x.southQueue(0, 1), 1);
        Check.due("south 3", x.southQueue(3, 1), 1);
        String[] want = {"0 0 0 0", "0 0 0 1", "0 0 1 1", "1 0 1 1", "1 1 1 1"};
        for (String w : want) {
            x.pass(1);
            Check.due("delivered behind tick " + (x.clock() - 1), delivered(x), w);
        }
    }

    /** Flows from leaves 3, 2 and 0 meet at spine 0 for leaf 1; the leaves take turns by rising numbers. */
    private static void queuesTakeTurnsAtASpine() {
        Fabric x = new Fabric();
        Scenes.onlySpine0(x);
        x.addFlow(12, 4, 2, 0);
        x.addFlow(8, 5, 2, 0);
        x.addFlow(0, 6, 2, 0);
        x.pass(4);
        String[] want = {"0 0 1", "0 1 1", "1 1 1", "1 1 2", "1 2 2", "2 2 2"};
        for (String w : want) {
            x.pass(1);
            Check.due("delivered behind tick " + (x.clock() - 1), delivered(x), w);
        }
    }

    private static void flowsTakeTurnsAtAHost() {
        Fabric x = new Fabric();
        x.addFlow(0, 1, 3, 0);
        x.addFlow(5, 6, 1, 0);
        x.addFlow(0, 2, 2, 0);
        x.addFlow(0, 3, 1, 2);
        int[][] want = {{1, 0, 0}, {1, 1, 0}, {1, 1, 1}, {2, 1, 1}, {2, 2, 1}, {3, 2, 1}, {3, 2, 1}};
        for (int[] w : want) {
            x.pass(1);
            String tick = " in tick " + (x.clock() - 1);
            Check.due("sent(0)" + tick, x.sent(0), w[0]);
            Check.due("sent(2)" + tick, x.sent(2), w[1]);
            Check.due("sent(3)" + tick, x.sent(3), w[2]);
        }
        x.addFlow(0, 3, 2, 0);
        x.pass(1);
        Check.due("a flow added behind the last one", x.sent(4), 1);
    }

    /** Flow 0 has no spine, flow 1 a full window, flow 2 has not started. */
    private static void flowsThatCannotSendArePassedOver() {
        Fabric x = new Fabric();
        x.reset(0, 5, 1);
        for (int s = 0; s < 4; s++) {
            x.cut(2, s);
        }
        x.addFlow(1, 8, 1, 0);
        x.addFlow(0, 4, 1, 0);
        x.addFlow(1, 4, 1, 0);
        x.addFlow(1, 2, 1, 1);
        x.addFlow(1, 3, 1, 0);
        x.pass(1);
        Check.due("sent without a spine", x.sent(0), 0);
        Check.due("sent by host 0", x.sent(1), 1);
        Check.due("sent beyond the window", x.sent(2), 0);
        Check.due("sent before the start", x.sent(3), 0);
        Check.due("sent by host 1", x.sent(4), 1);
    }

    private static void windowCountsThePicksOfThisTick() {
        for (int window = 1; window <= 16; window++) {
            Fabric x = new Fabric();
            x.reset(0, 5, window);
            for (int h = 15; h > 0; h--) {
                x.addFlow(h, 0, 2, 0);
            }
            x.pass(1);
            Check.due("open(0) with window " + window, x.open(0), Math.min(window, 15));
            for (int h = 1; h < 16; h++) {
                Check.due("sent by host " + h, x.sent(15 - h), h <= window ? 1 : 0);
            }
            x.pass(1);
            Check.due("open(0) a tick behind", x.open(0), window);
        }
    }

    private static void deliveredMakesRoomInTheSameTick() {
        Fabric x = new Fabric();
        x.reset(5, 5, 1);
        x.addFlow(0, 1, 3, 0);
        int[] sent = {1, 1, 2, 2, 3, 3};
        for (int want : sent) {
            x.pass(1);
            Check.due("sent in tick " + (x.clock() - 1), x.sent(0), want);
        }
    }

    private static void lostMakesRoomInTheSameTick() {
        Fabric x = new Fabric();
        x.reset(0, 5, 1);
        x.addFlow(0, 4, 1, 0);
        x.addFlow(1, 4, 1, 0);
        x.pass(2);
        x.cut(1, 0);
        x.pass(1);
        Check.due("lost", x.lost(0), 1);
        Check.due("sent again by the lower host", x.sent(0), 2);
        Check.due("the other one waits", x.sent(1), 0);
        Check.due("open", x.open(4), 1);
    }

    /** Three packets wait at spine 0 for want of credits of the south link; then the connection is cut. */
    private static void oneLostOfEachQueue() {
        Fabric x = new Fabric();
        x.reset(5, 50, 16);
        Scenes.onlySpine0(x);
        x.addFlow(8, 4, 4, 0);
        x.addFlow(0, 5, 3, 4);
        x.pass(8);
        Check.due("north queue", x.northQueue(0, 0), 3);
        Check.due("cut", x.cut(1, 0), x.southQueue(0, 1));
        for (int lost = 1; lost <= 3; lost++) {
            x.pass(1);
            Check.due("lost, one in a tick", x.lost(1), lost);
            Check.due("north queue behind it", x.northQueue(0, 0), 3 - lost);
        }
        x.pass(1);
        Check.due("no more lost", x.lost(1), 3);
        Check.due("none sent", x.sent(1), 3);
    }

    /** A packet for a cut leaf is lost, and the one behind it goes south in the same tick. */
    private static void theNextOneMovesBehindALostOne() {
        Fabric x = new Fabric();
        x.reset(5, 50, 16);
        Scenes.onlySpine0(x);
        x.addFlow(12, 4, 4, 0);
        x.addFlow(0, 5, 1, 4);
        x.addFlow(1, 8, 1, 5);
        x.pass(7);
        Check.due("both wait at the spine", x.northQueue(0, 0), 2);
        Check.due("credits", x.northCredits(0, 0), 2);
        x.cut(1, 0);
        x.pass(1);
        Check.due("lost", x.lost(1), 1);
        Check.due("the next one went south", x.southQueue(0, 2), 1);
        Check.due("north queue", x.northQueue(0, 0), 0);
        Check.due("both credits are on their way in tick 7", x.northCredits(0, 0), 2);
        x.pass(5);
        Check.due("and in tick 12", x.northCredits(0, 0), 2);
        x.pass(1);
        Check.due("both credits are back in tick 13", x.northCredits(0, 0), 4);
    }

    private static void waitsWithoutASpine() {
        Fabric x = new Fabric();
        x.addFlow(0, 4, 1, 0);
        x.addFlow(0, 1, 1, 1);
        x.pass(1);
        for (int s = 0; s < 4; s++) {
            x.cut(s % 2, s);
        }
        x.pass(3);
        Check.due("both wait", x.upQueue(0), 2);
        Check.due("the packet behind it waits as well", x.delivered(1), 0);
        Check.due("sent", x.sent(0), 1);
        x.restore(1, 3);
        x.pass(1);
        Check.due("over the restored spine", x.northQueue(0, 3), 1);
        Check.due("spineOf", x.spineOf(0), 0);
        Check.due("flowlets", x.flowlets(0), 1);
    }

    /** 5 * 6 = 30 leads over spine 2; among 0 and 2 the place would be the first, but it needs no other spine. */
    private static void keepsItsSpineIfRestored() {
        Fabric x = new Fabric();
        x.addFlow(0, 6, 1, 0);
        x.pass(1);
        Check.due("its own spine", x.spineOf(0), 2);
        for (int s = 0; s < 4; s++) {
            x.cut(0, s);
        }
        x.pass(5);
        x.restore(0, 0);
        x.restore(0, 2);
        x.pass(1);
        Check.due("over its own spine again", x.northQueue(0, 2), 1);

        Fabric y = new Fabric();
        y.addFlow(0, 4, 1, 0);
        y.addFlow(1, 2, 1, 0);
        y.pass(1);
        y.cut(0, 0);
        y.restore(0, 0);
        y.pass(1);
        Check.due("a cut between ticks is not seen", y.northQueue(0, 0), 1);
    }

    /** What is in the queues of cut links goes on from their far ends. */
    private static void cutKeepsWhatIsQueued() {
        Fabric x = new Fabric();
        x.addFlow(0, 4, 1, 0);
        x.pass(2);
        Check.due("cut with the packet in the north queue", x.cut(0, 0), 1);
        x.pass(1);
        Check.due("it goes on south", x.southQueue(0, 1), 1);
        Check.due("cut with the packet in the south queue", x.cut(1, 0), 1);
        x.pass(1);
        Check.due("it goes on down", x.downQueue(4), 1);
        Check.due("credits return over cut links", x.northCredits(0, 0), 4);
        x.pass(1);
        Check.due("delivered", x.delivered(0), 1);
        Check.due("lost", x.lost(0), 0);
    }

    /**
     * Packet 1, of flowlet 1, is at the leaf when its spine is cut: with the number of its own flowlet the place
     * is 33 mod 2 = 1; with that of flowlet 0 or 2 it would be 0.
     */
    private static void flowletOfThePacketChoosesTheSpine() {
        Fabric x = new Fabric();
        x.reset(0, 1, 1);
        x.addFlow(0, 4, 2, 0);
        x.pass(5);
        Check.due("flowlets", x.flowlets(0), 2);
        Check.due("spineOf", x.spineOf(0), 1);
        x.cut(1, 1);
        x.cut(0, 3);
        x.pass(1);
        Check.due("over the spine at the place 33 mod 2 of 0 and 2", x.northQueue(0, 2), 1);
        Check.due("spineOf stays", x.spineOf(0), 1);
    }

    /** Each of the 16 hosts takes one packet in a tick, and no more than one. */
    private static void eachHostTakesOnePacket() {
        Fabric x = new Fabric();
        for (int h = 0; h < 16; h++) {
            x.addFlow(h, h ^ 1, 2, 0);
        }
        Check.due("ticks 0 and 1", x.pass(2), 0);
        Check.due("tick 2", x.pass(1), 16);
        Check.due("tick 3", x.pass(1), 16);
        Check.due("tick 4", x.pass(1), 0);
    }

    /** Packets for three links wait in one queue; all three links have credits, but each tick one packet leaves. */
    private static void onePacketOfAQueueLeavesInATick() {
        Fabric x = new Fabric();
        x.addFlow(0, 4, 1, 0);
        x.addFlow(0, 2, 1, 0);
        x.addFlow(0, 1, 1, 0);
        x.pass(1);
        for (int s = 0; s < 4; s++) {
            x.cut(1, s);
        }
        x.pass(2);
        Check.due("all three wait", x.upQueue(0), 3);
        x.restore(1, 0);
        for (int left = 2; left >= 0; left--) {
            x.pass(1);
            Check.due("up queue behind tick " + (x.clock() - 1), x.upQueue(0), left);
        }
        Check.due("delivered behind tick 5", delivered(x), "0 1 0");
        x.pass(1);
        Check.due("delivered behind tick 6", delivered(x), "1 1 1");
    }

    /** "Until then all queues are as they were in 5": what comes to a queue in a tick leaves it in a later one. */
    private static void picksDoNotSeeEachOther() {
        Fabric x = new Fabric();
        x.addFlow(0, 4, 1, 0);
        x.addFlow(4, 0, 1, 0);
        x.addFlow(9, 10, 1, 0);
        String[] want = {"1 1 1", "1 1 1", "1 1 0", "1 1 0", "0 0 0"};
        for (String w : want) {
            x.pass(1);
            int over = x.spineOf(0);
            int back = x.spineOf(1);
            int first = x.upQueue(0) + x.northQueue(0, over) + x.southQueue(over, 1) + x.downQueue(4);
            int second = x.upQueue(4) + x.northQueue(1, back) + x.southQueue(back, 0) + x.downQueue(0);
            int third = x.upQueue(9) + x.downQueue(10);
            Check.due("on the way behind tick " + (x.clock() - 1), first + " " + second + " " + third, w);
        }
    }

    /** Step 1 comes before step 6: the credit that is back in tick 7 is given away in tick 7. */
    private static void hostUsesTheCreditThatIsBack() {
        Fabric x = new Fabric();
        x.reset(5, 5, 16);
        x.addFlow(0, 1, 5, 0);
        x.pass(7);
        Check.due("sent behind tick 6", x.sent(0), 4);
        x.pass(1);
        Check.due("sent behind tick 7", x.sent(0), 5);
        Check.due("credits behind tick 7", x.upCredits(0), 0);
    }

    /** Step 1 comes before step 5: the down link's first credit left in tick 2, and is back and used in tick 8. */
    private static void linkUsesTheCreditThatIsBack() {
        Fabric x = new Fabric();
        x.reset(5, 5, 16);
        x.addFlow(0, 1, 3, 0);
        x.addFlow(2, 1, 2, 0);
        x.pass(8);
        Check.due("behind tick 7 one waits in an up queue", x.upQueue(0) + x.upQueue(2), 1);
        Check.due("and none in the down queue", x.downQueue(1), 0);
        x.pass(1);
        Check.due("behind tick 8 it is in the down queue", x.downQueue(1), 1);
    }
}
