/**
 * A simulator of a data-centre fabric: 16 hosts at 4 leaves, each leaf connected to each of 4 spines.
 * Flows are added, connections are cut and restored, and time passes tick by tick.
 *
 * <p>Everything that a run needs is made in the constructor and used again: a call makes no object, but for
 * the exception that it throws.
 */
public final class Fabricsim {
    /** There is none. */
    public static final int NONE = -1;

    private static final int HOSTS = 16;
    private static final int LEAVES = 4;
    private static final int SPINES = 4;
    private static final int HOSTS_OF_LEAF = 4;
    private static final int CONNECTIONS = LEAVES * SPINES;
    private static final int ALL_SPINES = (1 << SPINES) - 1;
    private static final int FULL_CREDITS = 4;
    private static final int MOST_FLOWS = 24;
    private static final int MOST_PACKETS = 100;
    private static final int MOST_LATER = 100;
    private static final int MOST_DELAY = 5;
    private static final int MOST_GAP = 50;
    private static final int MOST_WINDOW = 16;
    private static final int MOST_TICKS_OF_PASS = 200;
    private static final int MOST_TICKS = 100000;

    /** A credit comes back at most 1 + MOST_DELAY ticks later, so that many ticks and this one are kept apart. */
    private static final int RETURN_SLOTS = MOST_DELAY + 2;

    private final Flow[] flowRows = new Flow[MOST_FLOWS];
    private final Host[] hosts = new Host[HOSTS];
    private final Link[] links = new Link[2 * HOSTS + 2 * CONNECTIONS];
    private final Link[] norths = new Link[CONNECTIONS];
    private final Link[] souths = new Link[CONNECTIONS];
    private final Node[] leaves = new Node[LEAVES];
    private final Node[] spines = new Node[SPINES];
    /** By leaf, the spines that it is connected with, uncut: bit s stands for the spine s. */
    private final int[] uncut = new int[LEAVES];
    private int flowCount;
    private int nextTick;
    private int delay;
    private int gap;
    private int window;

    /** A packet's place in a queue; the row stays, what it holds is written anew. */
    private static final class Packet {
        private int flow;
        private int number;
        private int flowlet;
        private int spine;

        private void write(int newFlow, int newNumber, int newFlowlet, int newSpine) {
            flow = newFlow;
            number = newNumber;
            flowlet = newFlowlet;
            spine = newSpine;
        }
    }

    /** One direction of a connection: its credits, and the queue at its far end. */
    private static final class Link {
        private final Packet[] ring = new Packet[FULL_CREDITS];
        private final int[] backInSlot = new int[RETURN_SLOTS];
        private int first;
        private int waiting;
        private int credits;
        private int lastPlace;
        private int pickedPlace;

        private Link() {
            for (int i = 0; i < ring.length; i++) {
                ring[i] = new Packet();
            }
        }

        private void clear() {
            for (int i = 0; i < backInSlot.length; i++) {
                backInSlot[i] = 0;
            }
            first = 0;
            waiting = 0;
            credits = FULL_CREDITS;
            lastPlace = NONE;
            pickedPlace = NONE;
        }

        private Packet firstPacket() {
            return ring[first];
        }

        /** Adds a packet at the end of the queue; there is room, because the link has a credit for it. */
        private void put(int flow, int number, int flowlet, int spine) {
            credits--;
            ring[(first + waiting) % FULL_CREDITS].write(flow, number, flowlet, spine);
            waiting++;
        }

        /** Takes the first packet out of the queue; its credit comes back in a tick of the given slot. */
        private void drop(int slot) {
            first = (first + 1) % FULL_CREDITS;
            waiting--;
            backInSlot[slot]++;
        }

        private void takeBack(int slot) {
            credits += backInSlot[slot];
            backInSlot[slot] = 0;
        }

        private int onTheWayBack() {
            int sum = 0;
            for (int i = 0; i < backInSlot.length; i++) {
                sum += backInSlot[i];
            }
            return sum;
        }

        /** Picks the next queue whose first packet wants this link, behind the queue picked from last. */
        private void pick(int[] wanted, int self) {
            pickedPlace = NONE;
            if (credits == 0) {
                return;
            }
            for (int step = 1; step <= wanted.length; step++) {
                int place = (lastPlace + step) % wanted.length;
                if (wanted[place] == self) {
                    lastPlace = place;
                    pickedPlace = place;
                    return;
                }
            }
        }
    }

    /** A leaf or a spine: the links to it in the order of queues, and the links from it. */
    private static final class Node {
        private final Link[] in;
        private final Link[] out;
        /**
         * For each link to it the place in out of the link that its first packet wants; NONE if there is none,
         * or if that link is cut, so that a cut link finds nothing to pick.
         */
        private final int[] wanted;

        private Node(int linksIn, int linksOut) {
            in = new Link[linksIn];
            out = new Link[linksOut];
            wanted = new int[linksIn];
        }

        private void pick() {
            for (int i = 0; i < out.length; i++) {
                out[i].pick(wanted, i);
            }
        }

        private void move(int slot) {
            for (int i = 0; i < out.length; i++) {
                int place = out[i].pickedPlace;
                if (place != NONE) {
                    Packet packet = in[place].firstPacket();
                    out[i].put(packet.flow, packet.number, packet.flowlet, packet.spine);
                    in[place].drop(slot);
                }
            }
        }
    }

    /** A host: its two links, its open packets, and the flow that it picked last. */
    private static final class Host {
        private final Link up = new Link();
        private final Link down = new Link();
        private int openPackets;
        private int lastFlow;

        private void clear() {
            openPackets = 0;
            lastFlow = NONE;
        }
    }

    /** A flow: what it was added with, and what has become of its packets. */
    private static final class Flow {
        private int source;
        private int target;
        private int packets;
        private int start;
        private int sentPackets;
        private int deliveredPackets;
        private int lostPackets;
        private int latePackets;
        private int greatestDelivered;
        private int doneTick;
        private int flowletCount;
        private int spine;
        private int lastSentTick;

        private void begin(int newSource, int newTarget, int newPackets, int newStart) {
            source = newSource;
            target = newTarget;
            packets = newPackets;
            start = newStart;
            sentPackets = 0;
            deliveredPackets = 0;
            lostPackets = 0;
            latePackets = 0;
            greatestDelivered = NONE;
            doneTick = NONE;
            flowletCount = 0;
            spine = NONE;
            lastSentTick = NONE;
        }

        private int unsent() {
            return packets - (sentPackets - lostPackets);
        }

        private int sourceLeaf() {
            return source / HOSTS_OF_LEAF;
        }

        private int targetLeaf() {
            return target / HOSTS_OF_LEAF;
        }

        private boolean crossesLeaves() {
            return sourceLeaf() != targetLeaf();
        }

        private void countDelivered(int number, int tick) {
            deliveredPackets++;
            if (number < greatestDelivered) {
                latePackets++;
            } else {
                greatestDelivered = number;
            }
            if (deliveredPackets == packets) {
                doneTick = tick;
            }
        }
    }

    /** A fabric without flows, with the delay 0, the gap 5 and the window 8. */
    public Fabricsim() {
        for (int i = 0; i < MOST_FLOWS; i++) {
            flowRows[i] = new Flow();
        }
        for (int i = 0; i < HOSTS; i++) {
            hosts[i] = new Host();
            links[i] = hosts[i].up;
            links[HOSTS + i] = hosts[i].down;
        }
        for (int i = 0; i < CONNECTIONS; i++) {
            norths[i] = new Link();
            souths[i] = new Link();
            links[2 * HOSTS + i] = norths[i];
            links[2 * HOSTS + CONNECTIONS + i] = souths[i];
        }
        for (int leaf = 0; leaf < LEAVES; leaf++) {
            leaves[leaf] = new Node(HOSTS_OF_LEAF + SPINES, HOSTS_OF_LEAF + SPINES);
            joinLeaf(leaf);
        }
        for (int spine = 0; spine < SPINES; spine++) {
            spines[spine] = new Node(LEAVES, LEAVES);
            joinSpine(spine);
        }
        begin(0, 5, 8);
    }

    private void joinLeaf(int leaf) {
        Node node = leaves[leaf];
        for (int i = 0; i < HOSTS_OF_LEAF; i++) {
            Host host = hosts[leaf * HOSTS_OF_LEAF + i];
            node.in[i] = host.up;
            node.out[i] = host.down;
        }
        for (int spine = 0; spine < SPINES; spine++) {
            node.in[HOSTS_OF_LEAF + spine] = southOf(spine, leaf);
            node.out[HOSTS_OF_LEAF + spine] = northOf(leaf, spine);
        }
    }

    private void joinSpine(int spine) {
        Node node = spines[spine];
        for (int leaf = 0; leaf < LEAVES; leaf++) {
            node.in[leaf] = northOf(leaf, spine);
            node.out[leaf] = southOf(spine, leaf);
        }
    }

    private void begin(int newDelay, int newGap, int newWindow) {
        delay = newDelay;
        gap = newGap;
        window = newWindow;
        flowCount = 0;
        nextTick = 0;
        for (int i = 0; i < links.length; i++) {
            links[i].clear();
        }
        for (int i = 0; i < HOSTS; i++) {
            hosts[i].clear();
        }
        for (int i = 0; i < LEAVES; i++) {
            uncut[i] = ALL_SPINES;
        }
    }

    // ---- setting up

    /** Begins anew. */
    public void reset(int delay, int gap, int window) throws IllegalArgumentException {
        if (isOutside(delay, 0, MOST_DELAY) || isOutside(gap, 1, MOST_GAP) || isOutside(window, 1, MOST_WINDOW)) {
            throw new IllegalArgumentException("delay, gap or window is out of range");
        }
        begin(delay, gap, window);
    }

    /** Adds a flow, and returns its number. */
    public int addFlow(int source, int target, int packets, int later)
            throws IllegalArgumentException, IllegalStateException {
        checkHost(source);
        checkHost(target);
        if (target == source) {
            throw new IllegalArgumentException("target is source");
        }
        if (isOutside(packets, 1, MOST_PACKETS) || isOutside(later, 0, MOST_LATER)) {
            throw new IllegalArgumentException("packets or later is out of range");
        }
        if (flowCount >= MOST_FLOWS) {
            throw new IllegalStateException("there is no room for another flow");
        }
        flowRows[flowCount].begin(source, target, packets, nextTick + later);
        flowCount++;
        return flowCount - 1;
    }

    /** Cuts a connection, and returns how many packets are in the queues of its two links. */
    public int cut(int leaf, int spine) throws IllegalArgumentException, IllegalStateException {
        checkConnection(leaf, spine);
        if (isCut(leaf, spine)) {
            throw new IllegalStateException("the connection is cut");
        }
        uncut[leaf] &= ~(1 << spine);
        return northOf(leaf, spine).waiting + southOf(spine, leaf).waiting;
    }

    /** Restores a connection, and returns how many are still cut. */
    public int restore(int leaf, int spine) throws IllegalArgumentException, IllegalStateException {
        checkConnection(leaf, spine);
        if (!isCut(leaf, spine)) {
            throw new IllegalStateException("the connection is not cut");
        }
        uncut[leaf] |= 1 << spine;
        int stillCut = CONNECTIONS;
        for (int i = 0; i < LEAVES; i++) {
            stillCut -= Integer.bitCount(uncut[i]);
        }
        return stillCut;
    }

    /** Lets ticks pass, and returns how many packets are delivered. */
    public int pass(int ticks) throws IllegalArgumentException, IllegalStateException {
        if (isOutside(ticks, 1, MOST_TICKS_OF_PASS)) {
            throw new IllegalArgumentException("ticks is out of range");
        }
        if (nextTick + ticks > MOST_TICKS) {
            throw new IllegalStateException("too many ticks would have passed");
        }
        int count = 0;
        for (int i = 0; i < ticks; i++) {
            count += runTick();
        }
        return count;
    }

    /** Returns the number of the next tick. */
    public int clock() {
        return nextTick;
    }

    // ---- flows

    /** Returns the number of flows. */
    public int flows() {
        return flowCount;
    }

    /** Returns how many packets of a flow were sent, lost ones included. */
    public int sent(int flow) throws IndexOutOfBoundsException {
        checkFlow(flow);
        return flowRows[flow].sentPackets;
    }

    /** Returns how many packets of a flow were delivered. */
    public int delivered(int flow) throws IndexOutOfBoundsException {
        checkFlow(flow);
        return flowRows[flow].deliveredPackets;
    }

    /** Returns how many packets of a flow were lost. */
    public int lost(int flow) throws IndexOutOfBoundsException {
        checkFlow(flow);
        return flowRows[flow].lostPackets;
    }

    /** Returns how many packets of a flow were delivered out of order. */
    public int outOfOrder(int flow) throws IndexOutOfBoundsException {
        checkFlow(flow);
        return flowRows[flow].latePackets;
    }

    /** Returns the tick in which the last packet of a flow was delivered; NONE if it is not done. */
    public int doneIn(int flow) throws IndexOutOfBoundsException {
        checkFlow(flow);
        return flowRows[flow].doneTick;
    }

    /** Returns how many flowlets of a flow have begun. */
    public int flowlets(int flow) throws IndexOutOfBoundsException {
        checkFlow(flow);
        return flowRows[flow].flowletCount;
    }

    /** Returns the spine of the latest flowlet of a flow; NONE if none has begun. */
    public int spineOf(int flow) throws IndexOutOfBoundsException {
        checkFlow(flow);
        return flowRows[flow].spine;
    }

    // ---- links

    /** Returns the number of packets in the queue of an up link. */
    public int upQueue(int host) throws IllegalArgumentException {
        checkHost(host);
        return hosts[host].up.waiting;
    }

    /** Returns the number of packets in the queue of a down link. */
    public int downQueue(int host) throws IllegalArgumentException {
        checkHost(host);
        return hosts[host].down.waiting;
    }

    /** Returns the number of packets in the queue of a north link. */
    public int northQueue(int leaf, int spine) throws IllegalArgumentException {
        checkConnection(leaf, spine);
        return northOf(leaf, spine).waiting;
    }

    /** Returns the number of packets in the queue of a south link. */
    public int southQueue(int spine, int leaf) throws IllegalArgumentException {
        checkConnection(leaf, spine);
        return southOf(spine, leaf).waiting;
    }

    /** Returns the credits of an up link. */
    public int upCredits(int host) throws IllegalArgumentException {
        checkHost(host);
        return hosts[host].up.credits;
    }

    /** Returns the credits of a north link. */
    public int northCredits(int leaf, int spine) throws IllegalArgumentException {
        checkConnection(leaf, spine);
        return northOf(leaf, spine).credits;
    }

    /** Returns how many credits of all links are on their way back. */
    public int returning() {
        int sum = 0;
        for (int i = 0; i < links.length; i++) {
            sum += links[i].onTheWayBack();
        }
        return sum;
    }

    /** Returns the number of packets in all queues. */
    public int queued() {
        int sum = 0;
        for (int i = 0; i < links.length; i++) {
            sum += links[i].waiting;
        }
        return sum;
    }

    /** Returns the open packets of a host. */
    public int open(int host) throws IllegalArgumentException {
        checkHost(host);
        return hosts[host].openPackets;
    }

    /** Returns the usable spines from one leaf to another one: bit s stands for the spine s. */
    public int usable(int leaf, int other) throws IllegalArgumentException {
        if (isOutside(leaf, 0, LEAVES - 1) || isOutside(other, 0, LEAVES - 1) || other == leaf) {
            throw new IllegalArgumentException("a leaf is out of range, or other is leaf");
        }
        return usableSpines(leaf, other);
    }

    /** Returns how many ticks it takes at the least to send what is still to send; NONE if a leaf is cut off. */
    public int leastTicks() {
        int least = 0;
        for (int host = 0; host < HOSTS; host++) {
            least = Math.max(least, Math.max(unsentBy(host), unsentFor(host)));
        }
        for (int leaf = 0; leaf < LEAVES; leaf++) {
            int most = Math.max(unsentOutOf(leaf), unsentInto(leaf));
            int ways = Integer.bitCount(uncut[leaf]);
            if (most > 0 && ways == 0) {
                return NONE;
            }
            if (ways > 0) {
                least = Math.max(least, (most + ways - 1) / ways);
            }
        }
        return least;
    }

    private int unsentBy(int host) {
        int sum = 0;
        for (int i = 0; i < flowCount; i++) {
            if (flowRows[i].source == host) {
                sum += flowRows[i].unsent();
            }
        }
        return sum;
    }

    private int unsentFor(int host) {
        int sum = 0;
        for (int i = 0; i < flowCount; i++) {
            if (flowRows[i].target == host) {
                sum += flowRows[i].unsent();
            }
        }
        return sum;
    }

    private int unsentOutOf(int leaf) {
        int sum = 0;
        for (int i = 0; i < flowCount; i++) {
            if (flowRows[i].crossesLeaves() && flowRows[i].sourceLeaf() == leaf) {
                sum += flowRows[i].unsent();
            }
        }
        return sum;
    }

    private int unsentInto(int leaf) {
        int sum = 0;
        for (int i = 0; i < flowCount; i++) {
            if (flowRows[i].crossesLeaves() && flowRows[i].targetLeaf() == leaf) {
                sum += flowRows[i].unsent();
            }
        }
        return sum;
    }

    // ---- a tick

    /** Runs the next tick, and returns how many packets are delivered in it. */
    private int runTick() {
        int slot = (nextTick + 1 + delay) % RETURN_SLOTS;
        takeCreditsBack();
        int count = deliverAll(slot);
        loseAtSpines(slot);
        aimAtLeaves();
        aimAtSpines();
        pickAll();
        // The packets picked can move before the hosts send: the credits that this frees come back in a
        // later tick, and no host looks at a queue.
        moveAll(slot);
        sendAll();
        nextTick++;
        return count;
    }

    private void takeCreditsBack() {
        int slot = nextTick % RETURN_SLOTS;
        for (int i = 0; i < links.length; i++) {
            links[i].takeBack(slot);
        }
    }

    private int deliverAll(int slot) {
        int count = 0;
        for (int i = 0; i < HOSTS; i++) {
            Link down = hosts[i].down;
            if (down.waiting > 0) {
                Packet packet = down.firstPacket();
                flowRows[packet.flow].countDelivered(packet.number, nextTick);
                hosts[i].openPackets--;
                down.drop(slot);
                count++;
            }
        }
        return count;
    }

    private void loseAtSpines(int slot) {
        for (int spine = 0; spine < SPINES; spine++) {
            for (int leaf = 0; leaf < LEAVES; leaf++) {
                Link north = northOf(leaf, spine);
                if (north.waiting > 0) {
                    Flow flow = flowRows[north.firstPacket().flow];
                    if (isCut(flow.targetLeaf(), spine)) {
                        flow.lostPackets++;
                        hosts[flow.target].openPackets--;
                        north.drop(slot);
                    }
                }
            }
        }
    }

    private void aimAtLeaves() {
        for (int leaf = 0; leaf < LEAVES; leaf++) {
            Node node = leaves[leaf];
            for (int i = 0; i < node.in.length; i++) {
                node.wanted[i] = wantedAtLeaf(leaf, node.in[i]);
            }
        }
    }

    /** Where the first packet of a queue at a leaf wants to go; it gets another spine first if it needs one. */
    private int wantedAtLeaf(int leaf, Link queue) {
        if (queue.waiting == 0) {
            return NONE;
        }
        Packet packet = queue.firstPacket();
        Flow flow = flowRows[packet.flow];
        if (flow.targetLeaf() == leaf) {
            return flow.target % HOSTS_OF_LEAF;
        }
        if (!isUsable(packet.spine, leaf, flow.targetLeaf())) {
            int spine = chosenSpine(packet.flow, packet.flowlet);
            if (spine == NONE) {
                return NONE;
            }
            packet.spine = spine;
        }
        return HOSTS_OF_LEAF + packet.spine;
    }

    private void aimAtSpines() {
        for (int spine = 0; spine < SPINES; spine++) {
            Node node = spines[spine];
            for (int i = 0; i < node.in.length; i++) {
                node.wanted[i] = wantedAtSpine(spine, node.in[i]);
            }
        }
    }

    private int wantedAtSpine(int spine, Link queue) {
        if (queue.waiting == 0) {
            return NONE;
        }
        int leaf = flowRows[queue.firstPacket().flow].targetLeaf();
        return isCut(leaf, spine) ? NONE : leaf;
    }

    private void pickAll() {
        for (int i = 0; i < LEAVES; i++) {
            leaves[i].pick();
        }
        for (int i = 0; i < SPINES; i++) {
            spines[i].pick();
        }
    }

    private void moveAll(int slot) {
        for (int i = 0; i < LEAVES; i++) {
            leaves[i].move(slot);
        }
        for (int i = 0; i < SPINES; i++) {
            spines[i].move(slot);
        }
    }

    private void sendAll() {
        for (int i = 0; i < HOSTS; i++) {
            Host host = hosts[i];
            if (host.up.credits > 0) {
                int picked = pickedFlow(i, host.lastFlow);
                if (picked != NONE) {
                    host.lastFlow = picked;
                    send(picked, host.up);
                }
            }
        }
    }

    /** The next flow behind the last one that the host can send a packet of; NONE if there is none. */
    private int pickedFlow(int host, int last) {
        for (int step = 1; step <= flowCount; step++) {
            int number = (last + step) % flowCount;
            if (flowRows[number].source == host && canSend(flowRows[number])) {
                return number;
            }
        }
        return NONE;
    }

    private boolean canSend(Flow flow) {
        if (flow.start > nextTick || flow.unsent() <= 0) {
            return false;
        }
        if (hosts[flow.target].openPackets >= window) {
            return false;
        }
        return !flow.crossesLeaves() || usableSpines(flow.sourceLeaf(), flow.targetLeaf()) != 0;
    }

    private void send(int number, Link up) {
        Flow flow = flowRows[number];
        if (flow.crossesLeaves() && needsFlowlet(flow)) {
            flow.spine = chosenSpine(number, flow.flowletCount);
            flow.flowletCount++;
        }
        up.put(number, flow.sentPackets, flow.flowletCount - 1, flow.spine);
        flow.sentPackets++;
        flow.lastSentTick = nextTick;
        hosts[flow.target].openPackets++;
    }

    private boolean needsFlowlet(Flow flow) {
        return flow.flowletCount == 0
                || nextTick - flow.lastSentTick > gap
                || !isUsable(flow.spine, flow.sourceLeaf(), flow.targetLeaf());
    }

    // ---- spines and connections

    /** The spine that the rule of the document gives to a flowlet; NONE if no spine is usable. */
    private int chosenSpine(int number, int flowlet) {
        Flow flow = flowRows[number];
        int usable = usableSpines(flow.sourceLeaf(), flow.targetLeaf());
        int ways = Integer.bitCount(usable);
        if (ways == 0) {
            return NONE;
        }
        int left = (7 * number + 13 * flowlet + 3 * flow.source + 5 * flow.target) % ways;
        for (int spine = 0; spine < SPINES; spine++) {
            if ((usable >> spine & 1) == 1) {
                if (left == 0) {
                    return spine;
                }
                left--;
            }
        }
        return NONE;
    }

    private boolean isCut(int leaf, int spine) {
        return (uncut[leaf] >> spine & 1) == 0;
    }

    private boolean isUsable(int spine, int leaf, int other) {
        return (usableSpines(leaf, other) >> spine & 1) == 1;
    }

    private int usableSpines(int leaf, int other) {
        return uncut[leaf] & uncut[other];
    }

    private Link northOf(int leaf, int spine) {
        return norths[leaf * SPINES + spine];
    }

    private Link southOf(int spine, int leaf) {
        return souths[spine * LEAVES + leaf];
    }

    // ---- arguments

    private static boolean isOutside(int value, int least, int most) {
        return value < least || value > most;
    }

    private static void checkHost(int host) {
        if (isOutside(host, 0, HOSTS - 1)) {
            throw new IllegalArgumentException("there is no such host");
        }
    }

    private static void checkConnection(int leaf, int spine) {
        if (isOutside(leaf, 0, LEAVES - 1) || isOutside(spine, 0, SPINES - 1)) {
            throw new IllegalArgumentException("there is no such leaf or spine");
        }
    }

    private void checkFlow(int flow) {
        if (isOutside(flow, 0, flowCount - 1)) {
            throw new IndexOutOfBoundsException("there is no such flow");
        }
    }
}
