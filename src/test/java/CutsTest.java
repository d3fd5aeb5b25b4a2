/** What a cut stops and what it leaves; which packets are lost, and which get another spine. */
public final class CutsTest {
    public static void main(String[] args) {
        cutStopsTheNorthLink();
        cutStopsTheSouthLink();
        cutOfTheFirstPartLosesNothing();
        creditsReturnOverCutLinks();
        creditsOnTheirWayAreNotCut();
        cutAndRestoreLeaveAllElse();
        restoreBringsNoCredits();
        firstOfEachQueueIsLost();
        packetsAreLostAtEachSpine();
        secondOfAQueueIsNotLost();
        packetForAnotherLeafIsNotLost();
        emptyQueueLosesNothing();
        lostPacketGetsANewNumber();
        lostPacketsAreSentTillAllAreDelivered();
        eachUpLinkGetsAnotherSpine();
        firstPacketAloneGetsAnotherSpine();
        anotherSpineStays();
        anotherSpineIsCutAsWell();
        olderFlowletChoosesTheSpine();
        packetOfItsLeafNeedsNoSpine();
        Check.finish("CutsTest");
    }

    private static Fabric manyOverSpine0() {
        Fabric x = new Fabric();
        x.reset(0, 5, 16);
        Scenes.onlySpine0(x);
        x.addFlow(0, 4, 50, 0);
        x.addFlow(8, 5, 50, 0);
        x.addFlow(12, 6, 50, 0);
        x.pass(20);
        return x;
    }

    /** "nothing is sent over its two links then, but what is in their queues stays". */
    private static void cutStopsTheNorthLink() {
        Fabric x = manyOverSpine0();
        int north = x.northQueue(0, 0);
        int up = x.upQueue(0);
        Check.due("P18 more than one waits", north > 1 && up > 1 ? 1 : 0, 1);
        Check.due("P4 cut", x.cut(0, 0), north + x.southQueue(0, 0));
        int delivered = x.delivered(0);
        int onTheWay = x.sent(0) - delivered - up;
        for (int tick = 0; tick < 30; tick++) {
            x.pass(1);
            Check.due("P18 the north queue does not grow", x.northQueue(0, 0) <= north ? 1 : 0, 1);
            Check.due("P16 the up queue stays", x.upQueue(0), up);
            north = x.northQueue(0, 0);
        }
        Check.due("P10 what was over the link is delivered", x.delivered(0), delivered + onTheWay);
        Check.due("P11 lost", x.lost(0), 0);
    }

    private static void cutStopsTheSouthLink() {
        Fabric x = manyOverSpine0();
        x.addFlow(1, 9, 50, 0);
        x.pass(6);
        int south = x.southQueue(0, 1);
        Check.due("P19 one waits", south, 1);
        x.cut(1, 0);
        Check.due("P19 it stays", x.southQueue(0, 1), 1);
        for (int tick = 0; tick < 30; tick++) {
            x.pass(1);
            Check.due("P19 it goes down, and none comes", x.southQueue(0, 1), 0);
        }
        Check.due("P11 lost", x.lost(0) > 0 && x.lost(1) > 0 && x.lost(2) > 0 ? 1 : 0, 1);
        Check.due("P10 another leaf's go on", x.delivered(3) > 20 ? 1 : 0, 1);
    }

    /** "if the first packet in the queue wants a south link that is cut": the cut of its north link takes none. */
    private static void cutOfTheFirstPartLosesNothing() {
        Fabric x = new Fabric();
        x.addFlow(0, 4, 1, 0);
        x.pass(2);
        Check.due("P4 cut behind the packet", x.cut(0, 0), 1);
        Check.due("P6 it is delivered in tick 4", x.pass(3), 1);
        Check.due("P11 lost", x.lost(0), 0);
        Check.due("P13 doneIn", x.doneIn(0), 4);
    }

    /**
     * "and credits return": the packet leaves the cut north link in tick 2 and the cut south link in tick 3, the
     * credits are back in ticks 8 and 9; those of the up and of the down link left in ticks 1 and 4.
     */
    private static void creditsReturnOverCutLinks() {
        Fabric x = new Fabric();
        x.reset(5, 5, 8);
        x.addFlow(0, 4, 1, 0);
        x.pass(2);
        x.cut(0, 0);
        x.pass(1);
        x.cut(1, 0);
        int[] north = {3, 3, 3, 3, 3, 4, 4, 4};
        int[] back = {3, 4, 4, 4, 3, 2, 1, 0};
        for (int tick = 3; tick <= 10; tick++) {
            x.pass(1);
            Check.due("P21 northCredits in tick " + tick, x.northCredits(0, 0), north[tick - 3]);
            Check.due("P22 returning in tick " + tick, x.returning(), back[tick - 3]);
        }
        Check.due("P4 it is cut yet", Check.thrownBy(() -> x.cut(0, 0)), "IllegalStateException");
    }

    /** The same, but the credits are on their way already when the links are cut: of the ticks 2 and 3. */
    private static void creditsOnTheirWayAreNotCut() {
        for (int delay = 0; delay <= 5; delay++) {
            Fabric x = new Fabric();
            x.reset(delay, 5, 8);
            x.addFlow(0, 4, 1, 0);
            x.pass(3);
            x.cut(0, 0);
            Check.due("P22 up and north, delay " + delay, x.returning(), delay == 0 ? 1 : 2);
            x.pass(1);
            x.cut(1, 0);
            for (int tick = 4; tick <= 11; tick++) {
                String what = ", delay " + delay + ", before tick " + tick;
                int back = 0;
                for (int left = 1; left <= 4; left++) {
                    back += left < tick && tick <= left + 1 + delay ? 1 : 0;
                }
                Check.due("P21 northCredits" + what, x.northCredits(0, 0), tick <= 3 + delay ? 3 : 4);
                Check.due("P22 returning" + what, x.returning(), back);
                x.pass(1);
            }
        }
    }

    /** Neither a cut nor its end touches what is in the queues and what is on its way. */
    private static void cutAndRestoreLeaveAllElse() {
        for (int i = 0; i < 16 * Scenes.BUSY; i++) {
            int leaf = i / 4 % 4;
            int spine = i % 4;
            if (leaf == 0 && spine == 2 || leaf == 3 && spine == 1) {
                continue;
            }
            Fabric x = Scenes.busy(i / 16);
            Fabric y = Scenes.busy(i / 16);
            x.cut(leaf, spine);
            x.restore(leaf, spine);
            for (int tick = 0; tick < 12; tick++) {
                Check.due("cut and restored " + leaf + " " + spine + ", tick " + tick, Check.look(x), Check.look(y));
                x.pass(1);
                y.pass(1);
            }
        }
    }

    /** Credits that are on their way when a connection is restored come in their own tick, and once. */
    private static void restoreBringsNoCredits() {
        Fabric x = new Fabric();
        x.reset(5, 5, 8);
        x.addFlow(0, 4, 1, 0);
        x.pass(2);
        x.cut(0, 0);
        x.pass(3);
        x.restore(0, 0);
        for (int tick = 5; tick < 8; tick++) {
            Check.due("P21 northCredits before tick " + tick, x.northCredits(0, 0), 3);
            x.pass(1);
        }
        x.pass(20);
        Check.due("P21 northCredits", x.northCredits(0, 0), 4);
    }

    /** "for each of its north links", "One packet of each queue at the most": three in each tick while they last. */
    private static void firstOfEachQueueIsLost() {
        Fabric x = manyOverSpine0();
        int[] leaves = {0, 2, 3};
        int[] queue = new int[3];
        for (int f = 0; f < 3; f++) {
            queue[f] = x.northQueue(leaves[f], 0);
            Check.due("P18 more than one waits", queue[f] > 1 ? 1 : 0, 1);
        }
        x.cut(1, 0);
        for (int tick = 1; tick <= 5; tick++) {
            x.pass(1);
            for (int f = 0; f < 3; f++) {
                int want = Math.min(tick, queue[f]);
                Check.due("P11 lost(" + f + ") in " + tick + " ticks", x.lost(f), want);
                Check.due("P18 north queue of leaf " + leaves[f], x.northQueue(leaves[f], 0), queue[f] - want);
            }
        }
    }

    /** "At each spine, for each of its north links": over each of them to each other leaf, and its credit returns. */
    private static void packetsAreLostAtEachSpine() {
        for (int i = 0; i < 64; i++) {
            int spine = i / 16;
            int leaf = i / 4 % 4;
            int other = i % 4;
            if (leaf == other) {
                continue;
            }
            Fabric x = new Fabric();
            Scenes.onlySpine(x, spine);
            x.addFlow(4 * leaf + spine, 4 * other, 1, 0);
            x.pass(2);
            String what = " over north link " + leaf + " " + spine + " to leaf " + other;
            Check.due("P18 it is at the spine" + what, x.northQueue(leaf, spine), 1);
            x.cut(other, spine);
            x.pass(1);
            Check.due("P11 lost" + what, x.lost(0), 1);
            Check.due("P18 it has left the queue" + what, x.northQueue(leaf, spine), 0);
            Check.due("P24 it is open no more" + what, x.open(4 * other), 0);
            Check.due("P21 its credit is on its way" + what, x.northCredits(leaf, spine), 3);
            x.pass(1);
            Check.due("P21 its credit is back" + what, x.northCredits(leaf, spine), 4);
        }
    }

    /**
     * Flow 0 (to leaf 2) lets leaf 3 go first in tick 3, so that its second packet and flow 1 (to leaf 1) are in
     * the queue behind it when the connection of leaf 1 is cut.
     */
    private static void secondOfAQueueIsNotLost() {
        Fabric x = new Fabric();
        Scenes.onlySpine0(x);
        x.addFlow(0, 8, 2, 0);
        x.addFlow(1, 4, 1, 2);
        x.addFlow(12, 9, 1, 1);
        x.pass(4);
        Check.due("P18 both are in the queue", x.northQueue(0, 0), 2);
        x.cut(1, 0);
        x.pass(1);
        Check.due("P11 lost while it is the second", x.lost(1), 0);
        Check.due("P18 the first one has left", x.northQueue(0, 0), 1);
        x.pass(1);
        Check.due("P11 lost when it is the first", x.lost(1), 1);
        Check.due("P18 it has left the queue", x.northQueue(0, 0), 0);
        Check.due("P11 the other flow lost none", x.lost(0), 0);
    }

    /** "wants a south link that is cut": one for another leaf wants another link. */
    private static void packetForAnotherLeafIsNotLost() {
        Fabric x = new Fabric();
        Scenes.onlySpine0(x);
        x.addFlow(0, 8, 1, 0);
        x.addFlow(4, 12, 1, 0);
        x.pass(2);
        x.cut(1, 0);
        x.cut(0, 0);
        Check.due("P6 both are delivered", x.pass(3), 2);
        Check.due("P11 lost", x.lost(0) + x.lost(1), 0);
    }

    private static void emptyQueueLosesNothing() {
        Fabric x = new Fabric();
        x.addFlow(0, 4, 3, 0);
        x.cut(1, 0);
        x.cut(2, 1);
        x.pass(30);
        Check.due("P10 delivered", x.delivered(0), 3);
        Check.due("P11 lost", x.lost(0), 0);
        Check.due("P21 credits of the unused link", x.northCredits(0, 0), 4);
    }

    /**
     * "A lost packet is sent again as a further packet with a new number": packet 0 is lost, 1 to 3 come one behind
     * the other over spine 1, and none of them is out of order.
     */
    private static void lostPacketGetsANewNumber() {
        Fabric x = new Fabric();
        x.cut(1, 2);
        x.cut(1, 3);
        x.addFlow(0, 4, 3, 0);
        x.pass(2);
        Check.due("P15 spineOf", x.spineOf(0), 0);
        x.cut(1, 0);
        x.pass(30);
        Check.due("P9 sent", x.sent(0), 4);
        Check.due("P10 delivered", x.delivered(0), 3);
        Check.due("P11 lost", x.lost(0), 1);
        Check.due("P12 outOfOrder", x.outOfOrder(0), 0);
        Check.due("P13 doneIn", x.doneIn(0), 7);
    }

    /** Sent is what is delivered and what is lost; done is when as many as it has to deliver are delivered. */
    private static void lostPacketsAreSentTillAllAreDelivered() {
        Fabric x = manyOverSpine0();
        for (int round = 0; round < 4; round++) {
            x.cut(1, 0);
            x.pass(3);
            x.restore(1, 0);
            x.pass(5);
        }
        Check.due("P13 not done", x.doneIn(0), Fabricsim.NONE);
        x.pass(200);
        x.pass(200);
        for (int f = 0; f < 3; f++) {
            Check.due("P11 some were lost", x.lost(f) >= 4 ? 1 : 0, 1);
            Check.due("P9 sent(" + f + ")", x.sent(f), 50 + x.lost(f));
            Check.due("P10 delivered(" + f + ")", x.delivered(f), 50);
            Check.due("P12 outOfOrder(" + f + ") over one path", x.outOfOrder(f), 0);
        }
        Check.due("P23 queued", x.queued(), 0);
        Check.due("P24 open", x.open(4) + x.open(5) + x.open(6), 0);
    }

    /** "for each of its up links", whichever end of the path is cut: the place among the three spines that are left. */
    private static void eachUpLinkGetsAnotherSpine() {
        for (int source = 0; source < 16; source++) {
            for (int target = 0; target < 16; target++) {
                if (source / 4 == target / 4) {
                    continue;
                }
                int sum = 3 * source + 5 * target;
                int spine = sum % 4;
                int another = sum % 3 < spine ? sum % 3 : sum % 3 + 1;
                Fabric x = new Fabric();
                x.addFlow(source, target, 1, 0);
                x.pass(1);
                x.cut((source + target) % 2 == 0 ? source / 4 : target / 4, spine);
                x.pass(1);
                String what = " from " + source + " to " + target;
                Check.due("P18 over spine " + another + what, x.northQueue(source / 4, another), 1);
                Check.due("P15 spineOf" + what, x.spineOf(0), spine);
                Check.due("P6 delivered" + what, x.pass(3), 1);
            }
        }
    }

    /**
     * "if the first packet in the queue .. its spine is not usable any more": flow 1 has spine 3 (7 + 40 mod 4) and is
     * the second while that is cut; when it is the first, spine 3 is usable again.
     */
    private static void firstPacketAloneGetsAnotherSpine() {
        Fabric x = new Fabric();
        x.addFlow(0, 4, 1, 0);
        x.addFlow(0, 8, 1, 0);
        x.pass(1);
        for (int s = 0; s < 4; s++) {
            x.cut(1, s);
        }
        x.pass(1);
        Check.due("P15 spineOf(1)", x.spineOf(1), 3);
        Check.due("P16 both wait", x.upQueue(0), 2);
        x.restore(1, 1);
        x.cut(0, 3);
        x.pass(1);
        Check.due("P18 the first one goes over the spine that is left", x.northQueue(0, 1), 1);
        x.restore(0, 3);
        x.pass(1);
        Check.due("P18 the second one goes over its own", x.northQueue(0, 3), 1);
    }

    /** Flow 1 (7 + 3 + 20 = 30) gets spine 0 of 0, 1, 3, but flow 0 goes first; then spine 2 is usable again. */
    private static void anotherSpineStays() {
        Fabric x = new Fabric();
        x.addFlow(0, 4, 1, 0);
        x.addFlow(1, 4, 1, 0);
        x.pass(1);
        Check.due("P15 spineOf(0)", x.spineOf(0), 0);
        Check.due("P15 spineOf(1)", x.spineOf(1), 2);
        x.cut(0, 2);
        x.pass(1);
        Check.due("P16 flow 1 waits", x.upQueue(1), 1);
        x.restore(0, 2);
        x.pass(1);
        Check.due("P18 over the spine that it got", x.northQueue(0, 0), 1);
        Check.due("P18 over the one that it had", x.northQueue(0, 2), 0);
    }

    /** The same, but the spine that it got is cut in its turn: among 1, 2, 3 the place is 30 mod 3. */
    private static void anotherSpineIsCutAsWell() {
        Fabric x = new Fabric();
        x.addFlow(0, 4, 1, 0);
        x.addFlow(1, 4, 1, 0);
        x.pass(1);
        x.cut(0, 2);
        x.pass(1);
        x.restore(0, 2);
        x.cut(1, 0);
        x.pass(1);
        Check.due("P18 over the first of the spines that are left", x.northQueue(0, 1), 1);
        Check.due("P14 flowlets", x.flowlets(1), 1);
        Check.due("P11 the one at the spine is lost", x.lost(0), 1);
    }

    /**
     * "chosen by the same rule with the number of its flowlet": the hosts 0, 1, 2 go before host 3 over spine 0; in
     * tick 2 that sends a packet of its flowlet 1, and then spine 0 is cut. The packet of flowlet 0 gets the place
     * 80 mod 3 of 1, 2, 3; with flowlet 1 it would be 93 mod 3.
     */
    private static void olderFlowletChoosesTheSpine() {
        Fabric x = new Fabric();
        x.reset(0, 1, 16);
        x.addFlow(0, 4, 1, 0);
        x.addFlow(1, 6, 1, 0);
        x.addFlow(2, 8, 1, 0);
        x.addFlow(3, 10, 2, 0);
        x.addFlow(3, 2, 1, 0);
        x.pass(3);
        Check.due("P14 flowlets", x.flowlets(3), 2);
        Check.due("P15 spineOf", x.spineOf(3), 1);
        Check.due("P16 three wait", x.upQueue(3), 3);
        x.cut(0, 0);
        x.pass(1);
        Check.due("P18 the older one goes over spine 3", x.northQueue(0, 3), 1);
        Check.due("P16 it has left", x.upQueue(3), 2);
    }

    /** "is for another leaf": a packet for a host of the same leaf goes down, whatever is cut. */
    private static void packetOfItsLeafNeedsNoSpine() {
        Fabric x = new Fabric();
        x.addFlow(8, 9, 2, 0);
        for (int s = 0; s < 4; s++) {
            x.cut(2, s);
        }
        Check.due("P6 pass", x.pass(4), 2);
        Check.due("P14 flowlets", x.flowlets(0), 0);
    }
}
