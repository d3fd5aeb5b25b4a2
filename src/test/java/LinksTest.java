/** Promises 16 to 26: the queues, the credits, open packets, usable spines, the least number of ticks. */
public final class LinksTest {
    private static final int[] FAR = {Integer.MIN_VALUE, Integer.MAX_VALUE};

    public static void main(String[] args) {
        hostRange();
        leafAndSpineRange();
        onePacketOnItsWay();
        onePacketInItsLeaf();
        upCreditsRunOut();
        northCreditsReturnLate();
        queuedAndReturning();
        fourTogether();
        fourTogetherOfANorthLink();
        fourTogetherWhereSomeAreLost();
        openCountsTarget();
        usableSpines();
        usableByEachConnection();
        usableRefuses();
        leastByHosts();
        leastByLeaves();
        leastFollowsWhatIsSent();
        leastWithCutLeaves();
        looksChangeNothing();
        Check.finish("LinksTest");
    }

    private static void hostRange() {
        Fabric x = new Fabric();
        x.addFlow(0, 9, 5, 0);
        x.pass(3);
        for (int w : new int[] {-1, 16, FAR[0], FAR[1]}) {
            Check.illegalArgument("P16 upQueue " + w, x, () -> x.upQueue(w));
            Check.illegalArgument("P17 downQueue " + w, x, () -> x.downQueue(w));
            Check.illegalArgument("P20 upCredits " + w, x, () -> x.upCredits(w));
            Check.illegalArgument("P24 open " + w, x, () -> x.open(w));
        }
    }

    private static void leafAndSpineRange() {
        Fabric x = new Fabric();
        x.addFlow(0, 9, 5, 0);
        x.pass(3);
        for (int w : new int[] {-1, 4, FAR[0], FAR[1]}) {
            Check.illegalArgument("P18 northQueue leaf " + w, x, () -> x.northQueue(w, 0));
            Check.illegalArgument("P18 northQueue spine " + w, x, () -> x.northQueue(0, w));
            Check.illegalArgument("P19 southQueue spine " + w, x, () -> x.southQueue(w, 0));
            Check.illegalArgument("P19 southQueue leaf " + w, x, () -> x.southQueue(0, w));
            Check.illegalArgument("P21 northCredits leaf " + w, x, () -> x.northCredits(w, 0));
            Check.illegalArgument("P21 northCredits spine " + w, x, () -> x.northCredits(0, w));
        }
    }

    /** Where the only packet is; every other queue is empty. */
    private static void dueAlone(Fabric x, String place) {
        StringBuilder found = new StringBuilder();
        for (int h = 0; h < 16; h++) {
            note(found, "up " + h, x.upQueue(h));
            note(found, "down " + h, x.downQueue(h));
        }
        for (int i = 0; i < 16; i++) {
            note(found, "north " + i / 4 + " " + i % 4, x.northQueue(i / 4, i % 4));
            note(found, "south " + i / 4 + " " + i % 4, x.southQueue(i / 4, i % 4));
        }
        Check.due("P16 to P19 in tick " + x.clock(), found.toString(), place);
        Check.due("P23 queued in tick " + x.clock(), x.queued(), place.isEmpty() ? 0 : 1);
    }

    private static void note(StringBuilder found, String place, int packets) {
        for (int i = 0; i < packets; i++) {
            found.append(place);
        }
    }

    /** From every host to every host of another leaf: up, north, south, down, and away. */
    private static void onePacketOnItsWay() {
        for (int source = 0; source < 16; source++) {
            for (int target = 0; target < 16; target++) {
                if (source / 4 == target / 4) {
                    continue;
                }
                int spine = (3 * source + 5 * target) % 4;
                Fabric x = new Fabric();
                x.addFlow(source, target, 1, 0);
                dueAlone(x, "");
                x.pass(1);
                dueAlone(x, "up " + source);
                Check.due("P20 upCredits", x.upCredits(source), 3);
                Check.due("P22 none has left a queue", x.returning(), 0);
                x.pass(1);
                dueAlone(x, "north " + source / 4 + " " + spine);
                Check.due("P21 northCredits", x.northCredits(source / 4, spine), 3);
                Check.due("P22 of the up link", x.returning(), 1);
                x.pass(1);
                dueAlone(x, "south " + spine + " " + target / 4);
                Check.due("P24 open", x.open(target), 1);
                Check.due("P22 of the north link", x.returning(), 1);
                x.pass(1);
                dueAlone(x, "down " + target);
                Check.due("P22 of the south link", x.returning(), 1);
                x.pass(1);
                dueAlone(x, "");
                Check.due("P24 open", x.open(target), 0);
                Check.due("P22 of the down link", x.returning(), 1);
                Check.due("P13 doneIn", x.doneIn(0), 4);
                x.pass(1);
                Check.due("P22 all are back", x.returning(), 0);
            }
        }
    }

    private static void onePacketInItsLeaf() {
        for (int source = 0; source < 16; source++) {
            for (int target = source / 4 * 4; target < source / 4 * 4 + 4; target++) {
                if (source != target) {
                    Fabric x = new Fabric();
                    x.addFlow(source, target, 1, 0);
                    x.pass(1);
                    dueAlone(x, "up " + source);
                    x.pass(1);
                    dueAlone(x, "down " + target);
                    x.pass(1);
                    dueAlone(x, "");
                    Check.due("P13 doneIn", x.doneIn(0), 2);
                }
            }
        }
    }

    private static void upCreditsRunOut() {
        Fabric x = new Fabric();
        x.reset(5, 5, 16);
        x.addFlow(0, 1, 50, 0);
        int[] credits = {3, 2, 1, 0, 0, 0, 0, 0, 0, 0, 0, 0, 0};
        int[] sent = {1, 2, 3, 4, 4, 4, 4, 5, 6, 7, 8, 8, 8};
        for (int i = 0; i < credits.length; i++) {
            x.pass(1);
            Check.due("P20 upCredits in tick " + i, x.upCredits(0), credits[i]);
            Check.due("P9 sent in tick " + i, x.sent(0), sent[i]);
        }
        Check.due("P20 upCredits of another host", x.upCredits(1), 4);
    }

    /** The packet leaves the queue of north link 0-0 in tick 2: its credit is back in tick 3 + delay. */
    private static void northCreditsReturnLate() {
        for (int delay = 0; delay <= 5; delay++) {
            Fabric x = new Fabric();
            x.reset(delay, 5, 8);
            x.addFlow(0, 4, 1, 0);
            for (int tick = 0; tick < 12; tick++) {
                x.pass(1);
                Check.due("P20 up, delay " + delay + ", tick " + tick, x.upCredits(0), tick < 2 + delay ? 3 : 4);
                boolean gone = tick >= 1 && tick < 3 + delay;
                Check.due("P21 north, delay " + delay + ", tick " + tick, x.northCredits(0, 0), gone ? 3 : 4);
                Check.due("P21 north beside it", x.northCredits(0, 1), 4);
                int back = 0;
                for (int left = 1; left <= 4; left++) {
                    back += tick >= left && tick < left + 1 + delay ? 1 : 0;
                }
                Check.due("P22 returning, delay " + delay + ", tick " + tick, x.returning(), back);
            }
        }
    }

    private static void queuedAndReturning() {
        queuesAddUp(1);
        queuesAddUp(2);
    }

    /** So many hosts of a leaf send to each target at another leaf; with two of them packets wait for one another. */
    private static void queuesAddUp(int senders) {
        Fabric x = new Fabric();
        x.reset(3, 5, 16);
        for (int h = 0; h < 16; h++) {
            x.addFlow(h, (h / 4 * 4 + 4 + h % 4 / senders) % 16, 30, 0);
        }
        int longest = 0;
        for (int i = 0; i < 120; i++) {
            x.pass(1);
            int sum = 0;
            int open = 0;
            for (int h = 0; h < 16; h++) {
                sum += x.upQueue(h) + x.downQueue(h) + x.northQueue(h / 4, h % 4) + x.southQueue(h / 4, h % 4);
                open += x.open(h);
                longest = Math.max(longest, Math.max(x.upQueue(h), x.southQueue(h / 4, h % 4)));
            }
            Check.due("P23 queued", x.queued(), sum);
            Check.due("P24 open of all hosts", open, sum);
        }
        Check.due("P23 more than one in a queue, senders " + senders, longest > 1 ? 1 : 0, senders > 1 ? 1 : 0);
        x.pass(200);
        Check.due("P23 queued at the end", x.queued(), 0);
        Check.due("P22 returning at the end", x.returning(), 0);
    }

    /**
     * "the credits of a link, the packets in its queue and the credits that are on their way back are always 4
     * together": what has left an up queue is what was sent less what is in it, and those that left in the last
     * 1 + delay ticks are on their way back.
     */
    private static void fourTogether() {
        for (int delay = 0; delay <= 5; delay += 5) {
            Fabric x = new Fabric();
            x.reset(delay, 5, 16);
            for (int h = 0; h < 16; h++) {
                x.addFlow(h, (h + 6) % 16, 30, 0);
            }
            int[][] left = new int[60][16];
            for (int tick = 0; tick < left.length; tick++) {
                x.pass(1);
                for (int h = 0; h < 16; h++) {
                    left[tick][h] = x.sent(h) - x.upQueue(h);
                    int back = left[tick][h] - (tick > delay ? left[tick - 1 - delay][h] : 0);
                    Check.due("P20 host " + h + ", tick " + tick, x.upCredits(h) + x.upQueue(h) + back, 4);
                }
            }
        }
    }

    /** The same of north links: leaf 0 sends over spine 0 alone, and what left its up queues is over that link. */
    private static void fourTogetherOfANorthLink() {
        for (int delay = 0; delay <= 5; delay += 5) {
            Fabric x = new Fabric();
            x.reset(delay, 5, 16);
            for (int s = 1; s < 4; s++) {
                x.cut(0, s);
            }
            for (int h = 0; h < 4; h++) {
                x.addFlow(h, 4 * h % 12 + 4, 30, 0);
            }
            int[] left = new int[60];
            for (int tick = 0; tick < left.length; tick++) {
                x.pass(1);
                for (int h = 0; h < 4; h++) {
                    left[tick] += x.sent(h) - x.upQueue(h);
                }
                left[tick] -= x.northQueue(0, 0);
                int back = left[tick] - (tick > delay ? left[tick - 1 - delay] : 0);
                Check.due("P21 tick " + tick, x.northCredits(0, 0) + x.northQueue(0, 0) + back, 4);
            }
        }
    }

    /**
     * The same where packets of the north link 0-0 wait at the spine, and every few ticks the way to leaf 1 is cut: then
     * two leave the queue in one tick, the first one, which is lost, and the one behind it, for leaf 2.
     */
    private static void fourTogetherWhereSomeAreLost() {
        int pairs = 0;
        for (int delay = 0; delay <= 5; delay++) {
            Fabric x = new Fabric();
            x.reset(delay, 5, 16);
            Scenes.onlySpine0(x);
            int[] sources = {0, 1, 2, 3, 8, 9, 12, 13};
            int[] targets = {4, 5, 9, 10, 4, 5, 6, 7};
            for (int i = 0; i < sources.length; i++) {
                x.addFlow(sources[i], targets[i], 100, 0);
            }
            int[] left = new int[60];
            for (int tick = 0; tick < left.length; tick++) {
                if (tick % 7 == 6) {
                    x.cut(1, 0);
                } else if (tick % 7 == 2 && tick > 6) {
                    x.restore(1, 0);
                }
                x.pass(1);
                for (int h = 0; h < 4; h++) {
                    left[tick] += x.sent(h) - x.upQueue(h);
                }
                left[tick] -= x.northQueue(0, 0);
                int back = left[tick] - (tick > delay ? left[tick - 1 - delay] : 0);
                Check.due("P21 tick " + tick + ", delay " + delay, x.northCredits(0, 0) + x.northQueue(0, 0) + back, 4);
                pairs += tick > 0 && left[tick] - left[tick - 1] == 2 && x.northQueue(0, 0) > 0 ? 1 : 0;
            }
        }
        Check.due("P11 two left in one tick, and others waited", pairs > 0 ? 1 : 0, 1);
    }

    private static void openCountsTarget() {
        Fabric x = new Fabric();
        x.addFlow(0, 1, 2, 0);
        x.addFlow(2, 1, 2, 0);
        x.addFlow(3, 4, 1, 0);
        int[] at1 = {2, 4, 3, 2, 1, 0};
        int[] at4 = {1, 1, 1, 1, 0, 0};
        for (int i = 0; i < at1.length; i++) {
            x.pass(1);
            Check.due("P24 open(1) behind tick " + i, x.open(1), at1[i]);
            Check.due("P24 open(4) behind tick " + i, x.open(4), at4[i]);
            Check.due("P24 open(0) behind tick " + i, x.open(0), 0);
        }
    }

    private static void usableSpines() {
        for (int a = 0; a < 16; a++) {
            for (int b = 0; b < 16; b++) {
                Fabric x = new Fabric();
                for (int s = 0; s < 4; s++) {
                    if ((a >> s & 1) == 1) {
                        x.cut(1, s);
                    }
                    if ((b >> s & 1) == 1) {
                        x.cut(3, s);
                    }
                }
                Check.due("P25 usable(1, 3)", x.usable(1, 3), 15 & ~a & ~b);
                Check.due("P25 usable(3, 1)", x.usable(3, 1), 15 & ~a & ~b);
                Check.due("P25 usable(1, 0)", x.usable(1, 0), 15 & ~a);
                Check.due("P25 usable(2, 3)", x.usable(2, 3), 15 & ~b);
                Check.due("P25 usable(0, 2)", x.usable(0, 2), 15);
            }
        }
    }

    /** Each connection is cut and restored by itself, in any order, and beside any others that are cut. */
    private static void usableByEachConnection() {
        Fabric x = new Fabric();
        boolean[] cut = new boolean[16];
        int next = 5;
        for (int step = 0; step < 200; step++) {
            next = (next * 7 + step) % 16;
            if (cut[next]) {
                x.restore(next / 4, next % 4);
            } else {
                x.cut(next / 4, next % 4);
            }
            cut[next] = !cut[next];
            for (int i = 0; i < 16; i++) {
                int leaf = i / 4;
                int other = i % 4;
                int want = 0;
                for (int s = 0; s < 4; s++) {
                    want += cut[4 * leaf + s] || cut[4 * other + s] ? 0 : 1 << s;
                }
                if (leaf != other) {
                    Check.due("P25 usable " + leaf + " " + other + ", step " + step, x.usable(leaf, other), want);
                }
            }
        }
    }

    private static void usableRefuses() {
        Fabric x = new Fabric();
        for (int w : new int[] {-1, 4, FAR[0], FAR[1]}) {
            Check.illegalArgument("P25 usable leaf " + w, x, () -> x.usable(w, 0));
            Check.illegalArgument("P25 usable other " + w, x, () -> x.usable(0, w));
        }
        for (int leaf = 0; leaf < 4; leaf++) {
            int same = leaf;
            Check.illegalArgument("P25 usable the same " + leaf, x, () -> x.usable(same, same));
        }
    }

    private static void leastByHosts() {
        Fabric x = new Fabric();
        Check.due("P26 none", x.leastTicks(), 0);
        x.addFlow(0, 1, 7, 0);
        Check.due("P26 one flow", x.leastTicks(), 7);
        x.addFlow(0, 2, 5, 50);
        Check.due("P26 one source, one flow not started", x.leastTicks(), 12);
        x.addFlow(4, 2, 9, 0);
        Check.due("P26 one target", x.leastTicks(), 14);
        x.addFlow(15, 14, 100, 100);
        Check.due("P26 the last host as source", x.leastTicks(), 100);
        x.addFlow(13, 14, 3, 100);
        Check.due("P26 target of two flows", x.leastTicks(), 103);
        Fabric y = new Fabric();
        y.addFlow(0, 15, 4, 0);
        y.addFlow(1, 15, 4, 0);
        Check.due("P26 the last host as target", y.leastTicks(), 8);
        Fabric z = new Fabric();
        z.addFlow(2, 3, 7, 0);
        z.addFlow(3, 2, 5, 0);
        Check.due("P26 what a host sends and what it gets are apart", z.leastTicks(), 7);
    }

    private static void leastByLeaves() {
        Fabric x = new Fabric();
        for (int i = 0; i < 4; i++) {
            x.addFlow(i, 4 * i % 12 + 4 + i % 2, 10, 0);
        }
        Check.due("P26 40 out of leaf 0 by 4", x.leastTicks(), 10);
        x.cut(0, 2);
        Check.due("P26 40 out of leaf 0 by 3", x.leastTicks(), 14);
        x.cut(0, 0);
        Check.due("P26 40 out of leaf 0 by 2", x.leastTicks(), 20);
        x.cut(0, 1);
        Check.due("P26 40 out of leaf 0 by 1", x.leastTicks(), 40);
        leastIntoALeaf();
        leastInsideALeaf();
        outAndInAreApart();
    }

    private static void leastIntoALeaf() {
        Fabric x = new Fabric();
        x.addFlow(0, 12, 5, 0);
        x.addFlow(4, 13, 5, 0);
        x.addFlow(8, 14, 5, 0);
        x.addFlow(9, 15, 5, 0);
        x.cut(3, 1);
        Check.due("P26 20 into leaf 3 by 3", x.leastTicks(), 7);
        x.cut(3, 3);
        Check.due("P26 20 into leaf 3 by 2", x.leastTicks(), 10);
        x.cut(2, 3);
        x.cut(2, 2);
        x.cut(2, 1);
        Check.due("P26 10 out of leaf 2 by 1", x.leastTicks(), 10);
    }

    private static void leastInsideALeaf() {
        Fabric x = new Fabric();
        x.addFlow(0, 1, 6, 0);
        x.addFlow(2, 3, 6, 0);
        x.cut(0, 0);
        x.cut(0, 1);
        x.cut(0, 2);
        Check.due("P26 packets inside a leaf use no connection", x.leastTicks(), 6);
        x.cut(0, 3);
        Check.due("P26 nor do they need one", x.leastTicks(), 6);
    }

    private static void outAndInAreApart() {
        Fabric x = new Fabric();
        x.cut(0, 0);
        x.cut(0, 1);
        x.addFlow(0, 4, 9, 0);
        x.addFlow(5, 1, 9, 0);
        Check.due("P26 9 out and 9 in, each alone by 2", x.leastTicks(), 9);
        x.cut(0, 2);
        Check.due("P26 9 out and 9 in, each alone by 1", x.leastTicks(), 9);
    }

    private static void leastFollowsWhatIsSent() {
        Fabric x = new Fabric();
        x.addFlow(0, 4, 5, 0);
        for (int left = 4; left >= 0; left--) {
            x.pass(1);
            Check.due("P26 sent ones do not count", x.leastTicks(), left);
        }
        Check.due("P24 some are open yet", x.open(4) > 0 ? 1 : 0, 1);
        Fabric y = new Fabric();
        y.addFlow(0, 4, 1, 0);
        y.pass(2);
        for (int s = 0; s < 4; s++) {
            y.cut(1, s);
        }
        Check.due("P26 a leaf cut off, nothing to send", y.leastTicks(), 0);
        y.pass(1);
        Check.due("P11 lost", y.lost(0), 1);
        Check.due("P26 the lost one is to be sent", y.leastTicks(), Fabricsim.NONE);
        y.restore(1, 3);
        Check.due("P26 the lost one is to be sent over one", y.leastTicks(), 1);
    }

    private static void leastWithCutLeaves() {
        Fabric x = new Fabric();
        for (int s = 0; s < 4; s++) {
            x.cut(2, s);
        }
        Check.due("P26 none to send", x.leastTicks(), 0);
        x.addFlow(0, 4, 3, 0);
        Check.due("P26 a leaf without connections and packets", x.leastTicks(), 3);
        x.addFlow(0, 9, 3, 0);
        Check.due("P26 packets into it", x.leastTicks(), Fabricsim.NONE);
        x.restore(2, 2);
        Check.due("P26 restored", x.leastTicks(), 6);
        Fabric y = new Fabric();
        for (int s = 0; s < 4; s++) {
            y.cut(2, s);
        }
        y.addFlow(9, 0, 3, 100);
        Check.due("P26 packets out of it", y.leastTicks(), Fabricsim.NONE);
        Fabric z = new Fabric();
        z.cut(0, 0);
        z.cut(0, 1);
        z.cut(1, 2);
        z.cut(1, 3);
        z.addFlow(0, 4, 4, 0);
        Check.due("P26 connections, but none in common", z.leastTicks(), 4);
    }

    private static void look(Fabric x, int which, int i) {
        int flow = i % x.flows();
        int other = (i / 4 + 1 + i % 3) % 4;
        int[] answers = {
            which == 0 ? x.sent(flow) + x.delivered(flow) + x.lost(flow) + x.outOfOrder(flow) : 0,
            which == 1 ? x.doneIn(flow) + x.flowlets(flow) + x.spineOf(flow) : 0,
            which == 2 ? x.upQueue(i) + x.downQueue(i) : 0,
            which == 3 ? x.northQueue(i / 4, i % 4) + x.southQueue(i / 4, i % 4) : 0,
            which == 4 ? x.upCredits(i) + x.open(i) : 0,
            which == 5 ? x.northCredits(i / 4, i % 4) : 0,
            which == 6 ? x.usable(i / 4, other) : 0,
            which == 7 ? x.returning() + x.queued() : 0,
            which == 8 ? x.leastTicks() + x.clock() : 0,
        };
        Check.due("P9 to P26 kinds of answers", answers.length, 9);
    }

    /** A fabric that is looked at in every tick goes on as one that is not; within the 512 calls of an object. */
    private static void looksChangeNothing() {
        for (int k = 0; k < 9 * Scenes.BUSY; k++) {
            int which = k % 9;
            Fabric x = Scenes.busy(k / 9);
            Fabric y = Scenes.busy(k / 9);
            for (int tick = 0; tick < 6; tick++) {
                for (int i = 0; i < 6; i++) {
                    look(x, which, (i + 6 * tick) % 16);
                }
                x.pass(1);
                y.pass(1);
            }
            Check.due("behind looks of kind " + which, Check.look(x), Check.look(y));
        }
    }
}
