/**
 * Whatever goes round: the flows of a host, the queues at a leaf and at a spine, each from the first pick over the
 * last one back to the first, and to the same one again; the ticks in which credits return; the place of a spine.
 */
public final class TurnsTest {
    public static void main(String[] args) {
        hostPicksTheLowestFlowFirst();
        hostGoesRoundItsFlows();
        hostPicksTheSameFlowAgain();
        hostRemembersItsFlowOverAPause();
        hostPicksAFlowAddedBehindTheLastOne();
        hostHasItsOwnTurn();
        downLinkPicksTheFirstQueueFirst();
        downLinkGoesRoundItsQueues();
        downLinkPicksTheSameQueueAgain();
        downLinkRemembersItsQueueOverAPause();
        downLinkHasItsOwnTurn();
        northLinkPicksTheFirstQueueFirst();
        northLinkGoesRoundItsQueues();
        northLinkPicksTheSameQueueAgain();
        northLinkRemembersItsQueueOverAPause();
        northLinkHasItsOwnTurn();
        southLinkPicksTheFirstQueueFirst();
        southLinkGoesRoundItsQueues();
        southLinkPicksTheSameQueueAgain();
        southLinkRemembersItsQueueOverAPause();
        southLinkHasItsOwnTurn();
        hostWithoutCreditKeepsItsTurn();
        linkWithoutCreditKeepsItsTurn();
        cutNorthLinkKeepsItsTurn();
        cutSouthLinkKeepsItsTurn();
        looksForgetNoTurn();
        creditsReturnInEachTick();
        placeOfTheSpineGoesRound();
        placeOfTheLastFlowlet();
        Check.finish("TurnsTest");
    }

    // ---- helpers

    /** Lets ticks pass, and tells which flows got a packet sent (or delivered) in each: "-" if none did. */
    private static String tell(Fabric x, int ticks, boolean sent) {
        StringBuilder text = new StringBuilder();
        for (int i = 0; i < ticks; i++) {
            int[] before = new int[x.flows()];
            for (int f = 0; f < before.length; f++) {
                before[f] = sent ? x.sent(f) : x.delivered(f);
            }
            x.pass(1);
            text.append(i == 0 ? "" : " ");
            int length = text.length();
            for (int f = 0; f < before.length; f++) {
                if ((sent ? x.sent(f) : x.delivered(f)) > before[f]) {
                    text.append(text.length() > length ? "+" : "").append(f);
                }
            }
            text.append(text.length() > length ? "" : "-");
        }
        return text.toString();
    }

    private static String sentIn(Fabric x, int ticks) {
        return tell(x, ticks, true);
    }

    private static String deliveredIn(Fabric x, int ticks) {
        return tell(x, ticks, false);
    }

    // ---- a host and its flows

    /** "the one with the lowest number, if it has not picked before": flow 1, since flow 0 has not started. */
    private static void hostPicksTheLowestFlowFirst() {
        Fabric x = new Fabric();
        x.addFlow(0, 1, 2, 2);
        x.addFlow(0, 2, 2, 0);
        x.addFlow(0, 3, 2, 0);
        Check.due("flows of host 0, the first one late", sentIn(x, 6), "1 2 0 1 2 0");
        for (int others = 0; others < 3; others++) {
            Fabric y = new Fabric();
            for (int i = 0; i < others; i++) {
                y.addFlow(1, 2, 1, 9);
            }
            y.addFlow(0, 1, 1, 0);
            y.addFlow(0, 2, 1, 0);
            Check.due("flows of host 0 behind others", sentIn(y, 2), others + " " + (others + 1));
        }
    }

    /** "the next one behind the flow that the host picked last, by rising numbers", from the last to the first. */
    private static void hostGoesRoundItsFlows() {
        Fabric x = new Fabric();
        x.addFlow(0, 3, 3, 0);
        x.addFlow(0, 2, 3, 0);
        x.addFlow(0, 1, 3, 0);
        Check.due("flows of host 0", sentIn(x, 9), "0 1 2 0 1 2 0 1 2");
    }

    /** "round to the same one again": no other flow has packets to send, or there is no other flow. */
    private static void hostPicksTheSameFlowAgain() {
        Fabric x = new Fabric();
        x.addFlow(0, 1, 1, 0);
        x.addFlow(0, 2, 4, 0);
        x.addFlow(0, 3, 1, 0);
        Check.due("flow 1 alone has packets left", sentIn(x, 6), "0 1 2 1 1 1");
        Fabric y = new Fabric();
        y.addFlow(0, 1, 4, 0);
        Check.due("a flow alone", sentIn(y, 4), "0 0 0 0");
    }

    private static void hostRemembersItsFlowOverAPause() {
        Fabric x = new Fabric();
        x.addFlow(0, 1, 1, 30);
        x.addFlow(0, 2, 1, 0);
        x.addFlow(0, 3, 1, 30);
        x.pass(30);
        Check.due("30 ticks behind flow 1", sentIn(x, 2), "2 0");
    }

    private static void hostPicksAFlowAddedBehindTheLastOne() {
        Fabric x = new Fabric();
        x.addFlow(0, 1, 5, 0);
        x.pass(3);
        x.addFlow(0, 2, 2, 0);
        Check.due("the new flow, and round", sentIn(x, 4), "1 0 1 0");
    }

    private static void hostHasItsOwnTurn() {
        Fabric x = new Fabric();
        x.addFlow(0, 1, 2, 0);
        x.addFlow(5, 6, 2, 0);
        x.addFlow(0, 2, 2, 0);
        x.addFlow(5, 7, 2, 0);
        Check.due("flows of hosts 0 and 5", sentIn(x, 4), "0+1 2+3 0+1 2+3");
        Fabric y = new Fabric();
        y.addFlow(0, 1, 3, 0);
        y.addFlow(5, 6, 2, 0);
        y.addFlow(5, 7, 2, 0);
        Check.due("host 0 has one flow, host 5 has two", sentIn(y, 4), "0+1 0+2 0+1 2");
    }

    // ---- a leaf and its down links

    /** "the first one in this order, if it has not picked before": by hosts, whatever the numbers of the flows. */
    private static void downLinkPicksTheFirstQueueFirst() {
        Fabric x = new Fabric();
        x.addFlow(11, 9, 1, 0);
        x.addFlow(10, 9, 1, 0);
        x.pass(2);
        Check.due("hosts 10 and 11 to host 9", deliveredIn(x, 2), "1 0");
    }

    /**
     * "The order of queues at a leaf is: the up links by rising hosts, then the south links by rising spines": host 5
     * has packets from the hosts 4 (flow 6), 6 (flow 5), 7 (flow 3) and over the spines 0 (flow 1), 1 (flow 0),
     * 2 (flow 4) and 3 (flow 2), and behind the last of these queues comes the first one.
     */
    private static void downLinkGoesRoundItsQueues() {
        Fabric x = new Fabric();
        x.reset(0, 5, 16);
        int[] sources = {12, 8, 0, 7, 11, 6, 4};
        for (int source : sources) {
            x.addFlow(source, 5, 3, 0);
        }
        x.pass(2);
        int[] spines = {1, 0, 3, Fabricsim.NONE, 2, Fabricsim.NONE, Fabricsim.NONE};
        for (int f = 0; f < spines.length; f++) {
            Check.due("P15 spineOf(" + f + ")", x.spineOf(f), spines[f]);
        }
        Check.due("two rounds of 7 queues", deliveredIn(x, 15), "6 5 3 1 0 4 2 6 5 3 1 0 4 2 6");
    }

    /** "round to the same one again": behind one turn of host 3 only host 2 has packets for host 0. */
    private static void downLinkPicksTheSameQueueAgain() {
        Fabric x = new Fabric();
        x.addFlow(2, 0, 4, 0);
        x.addFlow(3, 0, 1, 0);
        x.pass(2);
        Check.due("hosts 2 and 3 to host 0", deliveredIn(x, 6), "0 1 0 0 0 -");
    }

    private static void downLinkRemembersItsQueueOverAPause() {
        Fabric x = new Fabric();
        x.addFlow(2, 1, 1, 0);
        x.addFlow(0, 1, 1, 30);
        x.addFlow(3, 1, 1, 30);
        x.pass(32);
        Check.due("30 ticks behind host 2: host 3, then host 0", deliveredIn(x, 2), "2 1");
    }

    /** The down link 1 has picked from host 0; the down link 2 picks for the first time. */
    private static void downLinkHasItsOwnTurn() {
        Fabric x = new Fabric();
        x.addFlow(0, 1, 1, 0);
        x.addFlow(3, 2, 1, 1);
        x.addFlow(0, 2, 1, 1);
        x.pass(2);
        Check.due("down link 2 begins with host 0", deliveredIn(x, 3), "0 2 1");
    }

    // ---- a leaf and its north links

    /** "the first one in this order, if it has not picked before". */
    private static void northLinkPicksTheFirstQueueFirst() {
        Fabric x = new Fabric();
        Scenes.onlySpine0(x);
        x.addFlow(3, 4, 1, 0);
        x.addFlow(1, 5, 1, 0);
        x.pass(4);
        Check.due("hosts 1 and 3 over spine 0", deliveredIn(x, 2), "1 0");
    }

    /** The up links by rising hosts, and behind the last of them the first one. */
    private static void northLinkGoesRoundItsQueues() {
        Fabric x = new Fabric();
        Scenes.onlySpine0(x);
        x.addFlow(15, 0, 3, 0);
        x.addFlow(14, 1, 3, 0);
        x.addFlow(13, 4, 3, 0);
        x.addFlow(12, 5, 3, 0);
        x.pass(4);
        Check.due("hosts 12 to 15 over spine 0", deliveredIn(x, 12), "3 2 1 0 3 2 1 0 3 2 1 0");
    }

    /** "round to the same one again". */
    private static void northLinkPicksTheSameQueueAgain() {
        Fabric x = new Fabric();
        Scenes.onlySpine0(x);
        x.addFlow(2, 4, 4, 0);
        x.addFlow(3, 5, 1, 0);
        x.pass(4);
        Check.due("hosts 2 and 3 over spine 0", deliveredIn(x, 6), "0 1 0 0 0 -");
    }

    private static void northLinkRemembersItsQueueOverAPause() {
        Fabric x = new Fabric();
        Scenes.onlySpine0(x);
        x.addFlow(2, 4, 1, 0);
        x.addFlow(0, 5, 1, 30);
        x.addFlow(3, 6, 1, 30);
        x.pass(34);
        Check.due("30 ticks behind host 2: host 3, then host 0", deliveredIn(x, 2), "2 1");
    }

    /** North link 0-0 has picked from host 0 (0 + 20 mod 4); flows 1 and 2 take 0-1 (7 + 9 + 45, 14 + 0 + 35 mod 4). */
    private static void northLinkHasItsOwnTurn() {
        Fabric x = new Fabric();
        x.addFlow(0, 4, 1, 0);
        x.addFlow(3, 9, 1, 1);
        x.addFlow(0, 7, 1, 1);
        x.pass(3);
        Check.due("P15 spineOf(0)", x.spineOf(0), 0);
        Check.due("P15 spineOf(1)", x.spineOf(1), 1);
        Check.due("P15 spineOf(2)", x.spineOf(2), 1);
        x.pass(1);
        Check.due("north link 0-1 begins with host 0", deliveredIn(x, 3), "0 2 1");
    }

    // ---- a spine and its south links

    /** "the first one in this order, if it has not picked before": by leaves, whatever the numbers of the flows. */
    private static void southLinkPicksTheFirstQueueFirst() {
        Fabric x = new Fabric();
        Scenes.onlySpine0(x);
        x.addFlow(12, 4, 1, 0);
        x.addFlow(8, 5, 1, 0);
        x.pass(4);
        Check.due("leaves 2 and 3 to leaf 1", deliveredIn(x, 2), "1 0");
    }

    /** "at a spine: the north links by rising leaves", and behind the last of them the first one. */
    private static void southLinkGoesRoundItsQueues() {
        Fabric x = new Fabric();
        Scenes.onlySpine0(x);
        x.addFlow(12, 8, 3, 0);
        x.addFlow(4, 9, 3, 0);
        x.addFlow(0, 10, 3, 0);
        x.pass(4);
        Check.due("leaves 0, 1 and 3 to leaf 2", deliveredIn(x, 9), "2 1 0 2 1 0 2 1 0");
    }

    /** "round to the same one again". */
    private static void southLinkPicksTheSameQueueAgain() {
        Fabric x = new Fabric();
        Scenes.onlySpine0(x);
        x.addFlow(8, 4, 4, 0);
        x.addFlow(12, 5, 1, 0);
        x.pass(4);
        Check.due("leaves 2 and 3 to leaf 1", deliveredIn(x, 6), "0 1 0 0 0 -");
    }

    private static void southLinkRemembersItsQueueOverAPause() {
        Fabric x = new Fabric();
        Scenes.onlySpine0(x);
        x.addFlow(8, 4, 1, 0);
        x.addFlow(0, 5, 1, 30);
        x.addFlow(12, 6, 1, 30);
        x.pass(34);
        Check.due("30 ticks behind leaf 2: leaf 3, then leaf 0", deliveredIn(x, 2), "2 1");
    }

    /** South link 0-1 has picked from leaf 0; the south link 0-2 picks for the first time. */
    private static void southLinkHasItsOwnTurn() {
        Fabric x = new Fabric();
        Scenes.onlySpine0(x);
        x.addFlow(0, 4, 1, 0);
        x.addFlow(12, 8, 1, 1);
        x.addFlow(0, 9, 1, 1);
        x.pass(4);
        Check.due("south link 0-2 begins with leaf 0", deliveredIn(x, 3), "0 2 1");
    }

    // ---- a link that cannot pick

    /**
     * The down link 1 takes its 4 credits for host 0, 2, 0, 2 in ticks 1 to 4, has none in ticks 5 to 7, and goes on
     * with host 0 in tick 8.
     */
    private static void linkWithoutCreditKeepsItsTurn() {
        Fabric x = new Fabric();
        x.reset(5, 5, 16);
        x.addFlow(0, 1, 4, 0);
        x.addFlow(2, 1, 4, 0);
        x.addFlow(3, 1, 1, 5);
        x.pass(2);
        Check.due("host 3 comes behind host 2, then host 0", deliveredIn(x, 10), "0 1 0 1 - - - 2 0 1");
    }

    /** Host 0 gives its 4 credits to the flows 0, 1, 2, 0 in ticks 0 to 3, and has the next one in tick 7. */
    private static void hostWithoutCreditKeepsItsTurn() {
        Fabric x = new Fabric();
        x.reset(5, 5, 16);
        x.addFlow(0, 1, 5, 0);
        x.addFlow(0, 2, 5, 0);
        x.addFlow(0, 3, 5, 0);
        Check.due("flows of host 0", sentIn(x, 11), "0 1 2 0 - - - 1 2 0 1");
    }

    /** North link 0-0 has picked from host 2 when it is cut; restored, it goes on with host 3, not with host 0. */
    private static void cutNorthLinkKeepsItsTurn() {
        Fabric x = new Fabric();
        Scenes.onlySpine0(x);
        x.addFlow(2, 4, 1, 0);
        x.addFlow(0, 5, 1, 1);
        x.addFlow(3, 6, 1, 1);
        x.pass(2);
        x.cut(0, 0);
        x.pass(5);
        Check.due("P16 both wait", x.upQueue(0) + x.upQueue(3), 2);
        x.restore(0, 0);
        x.pass(3);
        Check.due("host 3, then host 0", deliveredIn(x, 2), "2 1");
    }

    /** South link 0-1 has picked from leaf 2 when it is cut; restored, it goes on with leaf 3, not with leaf 0. */
    private static void cutSouthLinkKeepsItsTurn() {
        Fabric x = new Fabric();
        Scenes.onlySpine0(x);
        x.addFlow(8, 4, 1, 0);
        x.addFlow(0, 5, 1, 20);
        x.addFlow(12, 6, 1, 20);
        x.pass(3);
        x.cut(1, 0);
        x.pass(7);
        x.restore(1, 0);
        x.pass(14);
        Check.due("leaf 3, then leaf 0", deliveredIn(x, 2), "2 1");
    }

    /** Whatever is asked between the ticks, two hosts go on taking turns at the down link of a third one. */
    private static void looksForgetNoTurn() {
        for (int host = 0; host < 16; host++) {
            int first = host / 4 * 4;
            int one = host == first ? first + 1 : first;
            int other = host == first + 3 ? first + 2 : first + 3;
            Fabric x = new Fabric();
            x.addFlow(one, host, 5, 0);
            x.addFlow(other, host, 5, 0);
            for (int tick = 0; tick < 10; tick++) {
                x.leastTicks();
                x.returning();
                x.queued();
                x.clock();
                x.flows();
                x.open(host);
                x.usable(host / 4, (host / 4 + 1) % 4);
                x.upQueue(one);
                x.upCredits(one);
                x.downQueue(host);
                x.northQueue(host / 4, 0);
                x.southQueue(0, host / 4);
                x.northCredits(host / 4, 0);
                x.pass(1);
                Check.due("P10 of host " + one + " in tick " + tick, x.delivered(0), tick / 2);
                Check.due("P10 of host " + other + " in tick " + tick, x.delivered(1), Math.max(0, tick - 1) / 2);
            }
        }
    }

    // ---- credits that return, and the place of a spine

    /** "a packet that left a queue in the tick e gives a credit back in the tick e + 1 + delay", for each e. */
    private static void creditsReturnInEachTick() {
        for (int delay = 0; delay <= 5; delay++) {
            for (int start = 1; start <= 15; start++) {
                Fabric x = new Fabric();
                x.reset(delay, 5, 8);
                x.pass(start);
                x.addFlow(0, 1, 1, 0);
                x.pass(2);
                String what = "of a packet that left in tick " + (start + 1) + ", delay " + delay;
                for (int tick = start + 2; tick < start + 2 + delay; tick++) {
                    x.pass(1);
                    Check.due("P20 in tick " + tick + " the credit " + what, x.upCredits(0), 3);
                }
                x.pass(1);
                Check.due("P20 in time the credit " + what, x.upCredits(0), 4);
            }
        }
    }

    /** "the usable one at the place (..) mod u, by rising numbers": for u spines the places 0 to u - 1, and 0 again. */
    private static void placeOfTheSpineGoesRound() {
        int[][] usable = {{2}, {1, 3}, {0, 2, 3}, {0, 1, 2, 3}};
        for (int[] spines : usable) {
            Fabric x = new Fabric();
            x.reset(0, 1, 1);
            for (int s = 0; s < 4; s++) {
                boolean there = false;
                for (int spine : spines) {
                    there |= spine == s;
                }
                if (!there) {
                    x.cut(1, s);
                }
            }
            // 3 * 8 + 5 * 4 + 13 * k, one flowlet every fourth tick.
            x.addFlow(8, 4, 13, 0);
            for (int k = 0; k < 13; k++) {
                x.pass(k == 0 ? 1 : 4);
                int place = (44 + 13 * k) % spines.length;
                Check.due("P15 flowlet " + k + " of " + spines.length, x.spineOf(0), spines[place]);
                Check.due("P14 flowlets", x.flowlets(0), k + 1);
            }
        }
    }

    /** Flow 23 from host 15 to host 11, flowlet 99: (161 + 1287 + 45 + 55) mod 3 = 0, and that before it is at 2. */
    private static void placeOfTheLastFlowlet() {
        Fabric x = new Fabric();
        x.reset(0, 1, 1);
        x.cut(3, 0);
        for (int f = 0; f < 23; f++) {
            x.addFlow(0, 1, 1, 0);
        }
        x.addFlow(15, 11, 100, 0);
        x.pass(200);
        x.pass(196);
        Check.due("P14 flowlets before the last", x.flowlets(23), 99);
        Check.due("P15 spine of flowlet 98", x.spineOf(23), 3);
        x.pass(1);
        Check.due("P14 flowlets", x.flowlets(23), 100);
        Check.due("P15 spine of flowlet 99", x.spineOf(23), 1);
    }
}
