import java.util.ArrayList;
import java.util.LinkedHashMap;
import java.util.List;
import java.util.Map;
import java.util.TreeMap;

/**
 * A second, slow reading of the document, kept apart from the class on purpose: links have names, queues are
 * lists, and the credits of a link are never counted but follow from "always 4 together".
 */
final class Model {
    static final int NONE = -1;

    static final class Packet {
        Flow flow;
        int number;
        int flowlet;
        int spine;
    }

    static final class Flow {
        int id;
        int source;
        int target;
        int packets;
        int start;
        final List<Integer> sentIn = new ArrayList<>();
        final List<Integer> arrived = new ArrayList<>();
        int lost;
        int late;
        int done = NONE;
        final List<Integer> spines = new ArrayList<>();

        int toSend() {
            return packets - sentIn.size() + lost;
        }
    }

    final List<Flow> flows = new ArrayList<>();
    final Map<String, List<Packet>> queues = new LinkedHashMap<>();
    final Map<String, List<Integer>> backIn = new TreeMap<>();
    final Map<String, String> lastQueue = new TreeMap<>();
    final Map<Integer, Integer> lastFlow = new TreeMap<>();
    final boolean[][] cut = new boolean[4][4];
    int delay;
    int gap;
    int window;
    int tick;

    Model(int delay, int gap, int window) {
        this.delay = delay;
        this.gap = gap;
        this.window = window;
        for (int h = 0; h < 16; h++) {
            newLink("up" + h);
            newLink("down" + h);
        }
        for (int l = 0; l < 4; l++) {
            for (int s = 0; s < 4; s++) {
                newLink("north" + l + s);
                newLink("south" + s + l);
            }
        }
    }

    private void newLink(String name) {
        queues.put(name, new ArrayList<>());
        backIn.put(name, new ArrayList<>());
    }

    int credits(String link) {
        return 4 - queues.get(link).size() - backIn.get(link).size();
    }

    boolean isCut(String link) {
        if (link.startsWith("north")) {
            return cut[link.charAt(5) - '0'][link.charAt(6) - '0'];
        }
        if (link.startsWith("south")) {
            return cut[link.charAt(6) - '0'][link.charAt(5) - '0'];
        }
        return false;
    }

    int add(int source, int target, int packets, int later) {
        Flow f = new Flow();
        f.id = flows.size();
        f.source = source;
        f.target = target;
        f.packets = packets;
        f.start = tick + later;
        flows.add(f);
        return f.id;
    }

    List<Integer> usable(int a, int b) {
        List<Integer> list = new ArrayList<>();
        for (int s = 0; s < 4; s++) {
            if (!cut[a][s] && !cut[b][s]) {
                list.add(s);
            }
        }
        return list;
    }

    List<Integer> usable(Flow f) {
        return usable(f.source / 4, f.target / 4);
    }

    int choose(Flow f, int k) {
        List<Integer> u = usable(f);
        return u.get((7 * f.id + 13 * k + 3 * f.source + 5 * f.target) % u.size());
    }

    int open(int host) {
        int n = 0;
        for (Flow f : flows) {
            if (f.target == host) {
                n += f.sentIn.size() - f.arrived.size() - f.lost;
            }
        }
        return n;
    }

    private Packet leave(String link) {
        backIn.get(link).add(tick + 1 + delay);
        return queues.get(link).remove(0);
    }

    int step() {
        int now = tick;
        for (List<Integer> list : backIn.values()) {
            list.removeIf(t -> t == now);
        }
        int count = 0;
        for (int h = 0; h < 16; h++) {
            if (!queues.get("down" + h).isEmpty()) {
                arrive(leave("down" + h));
                count++;
            }
        }
        for (int s = 0; s < 4; s++) {
            for (int l = 0; l < 4; l++) {
                List<Packet> q = queues.get("north" + l + s);
                if (!q.isEmpty() && cut[q.get(0).flow.target / 4][s]) {
                    leave("north" + l + s).flow.lost++;
                }
            }
        }
        Map<String, String> wants = wants();
        Map<String, String> picks = picks(wants);
        List<Packet> fresh = sendAll();
        Map<String, Packet> moving = new LinkedHashMap<>();
        for (Map.Entry<String, String> e : picks.entrySet()) {
            moving.put(e.getKey(), leave(e.getValue()));
        }
        for (Map.Entry<String, Packet> e : moving.entrySet()) {
            queues.get(e.getKey()).add(e.getValue());
        }
        for (Packet p : fresh) {
            queues.get("up" + p.flow.source).add(p);
        }
        tick++;
        return count;
    }

    private void arrive(Packet p) {
        Flow f = p.flow;
        for (int n : f.arrived) {
            if (n > p.number) {
                f.late++;
                break;
            }
        }
        f.arrived.add(p.number);
        if (f.arrived.size() == f.packets) {
            f.done = tick;
        }
    }

    /** The link that the first packet of each queue in the fabric wants, where there is one. */
    private Map<String, String> wants() {
        Map<String, String> wants = new LinkedHashMap<>();
        for (Map.Entry<String, List<Packet>> e : queues.entrySet()) {
            if (e.getValue().isEmpty() || e.getKey().startsWith("down")) {
                continue;
            }
            Packet p = e.getValue().get(0);
            Flow f = p.flow;
            if (e.getKey().startsWith("north")) {
                wants.put(e.getKey(), "south" + e.getKey().charAt(6) + f.target / 4);
            } else if (e.getKey().startsWith("south") || f.source / 4 == f.target / 4) {
                wants.put(e.getKey(), "down" + f.target);
            } else {
                List<Integer> u = usable(f);
                if (!u.contains(p.spine) && !u.isEmpty()) {
                    p.spine = choose(f, p.flowlet);
                }
                if (!u.isEmpty()) {
                    wants.put(e.getKey(), "north" + f.source / 4 + p.spine);
                }
            }
        }
        return wants;
    }

    private List<String> order(String link) {
        List<String> list = new ArrayList<>();
        if (link.startsWith("south")) {
            for (int l = 0; l < 4; l++) {
                list.add("north" + l + link.charAt(5));
            }
            return list;
        }
        int leaf = link.startsWith("north") ? link.charAt(5) - '0' : Integer.parseInt(link.substring(4)) / 4;
        for (int i = 0; i < 4; i++) {
            list.add("up" + (4 * leaf + i));
        }
        for (int s = 0; s < 4; s++) {
            list.add("south" + s + leaf);
        }
        return list;
    }

    /** By link that picks, the queue that it picks from. */
    private Map<String, String> picks(Map<String, String> wants) {
        Map<String, String> picks = new LinkedHashMap<>();
        for (String link : queues.keySet()) {
            if (link.startsWith("up") || isCut(link) || credits(link) == 0) {
                continue;
            }
            List<String> order = order(link);
            List<String> turn = new ArrayList<>(order);
            if (lastQueue.containsKey(link)) {
                int at = order.indexOf(lastQueue.get(link)) + 1;
                turn = new ArrayList<>(order.subList(at, order.size()));
                turn.addAll(order.subList(0, at));
            }
            for (String queue : turn) {
                if (link.equals(wants.get(queue))) {
                    picks.put(link, queue);
                    lastQueue.put(link, queue);
                    break;
                }
            }
        }
        return picks;
    }

    private List<Packet> sendAll() {
        List<Packet> fresh = new ArrayList<>();
        for (int h = 0; h < 16; h++) {
            if (credits("up" + h) == 0) {
                continue;
            }
            List<Flow> behind = new ArrayList<>();
            List<Flow> before = new ArrayList<>();
            for (Flow f : flows) {
                if (f.source == h && ready(f)) {
                    (f.id > lastFlow.getOrDefault(h, NONE) ? behind : before).add(f);
                }
            }
            behind.addAll(before);
            if (!behind.isEmpty()) {
                lastFlow.put(h, behind.get(0).id);
                fresh.add(packetOf(behind.get(0)));
            }
        }
        return fresh;
    }

    private boolean ready(Flow f) {
        boolean reachable = f.source / 4 == f.target / 4 || !usable(f).isEmpty();
        return f.start <= tick && f.toSend() > 0 && reachable && open(f.target) < window;
    }

    private Packet packetOf(Flow f) {
        if (f.source / 4 != f.target / 4) {
            int n = f.sentIn.size();
            boolean begins = n == 0 || tick - f.sentIn.get(n - 1) > gap
                    || !usable(f).contains(f.spines.get(f.spines.size() - 1));
            if (begins) {
                f.spines.add(choose(f, f.spines.size()));
            }
        }
        Packet p = new Packet();
        p.flow = f;
        p.number = f.sentIn.size();
        p.flowlet = f.spines.size() - 1;
        p.spine = f.spines.isEmpty() ? NONE : f.spines.get(f.spines.size() - 1);
        f.sentIn.add(tick);
        return p;
    }

    int cutCount() {
        int n = 0;
        for (boolean[] row : cut) {
            for (boolean c : row) {
                n += c ? 1 : 0;
            }
        }
        return n;
    }

    int queued() {
        return queues.values().stream().mapToInt(List::size).sum();
    }

    int returning() {
        return backIn.values().stream().mapToInt(List::size).sum();
    }

    int leastTicks() {
        int least = 0;
        for (int h = 0; h < 16; h++) {
            int host = h;
            least = Math.max(least, flows.stream().filter(f -> f.source == host).mapToInt(Flow::toSend).sum());
            least = Math.max(least, flows.stream().filter(f -> f.target == host).mapToInt(Flow::toSend).sum());
        }
        for (int l = 0; l < 4; l++) {
            int out = 0;
            int in = 0;
            for (Flow f : flows) {
                boolean far = f.source / 4 != f.target / 4;
                out += far && f.source / 4 == l ? f.toSend() : 0;
                in += far && f.target / 4 == l ? f.toSend() : 0;
            }
            int ways = usable(l, l).size();
            if (ways == 0 && out + in > 0) {
                return NONE;
            }
            for (int sum : new int[] {out, in}) {
                for (int t = 0; sum > t * ways; t++) {
                    least = Math.max(least, t + 1);
                }
            }
        }
        return least;
    }

    /** The same text as Check.look gives of the class. */
    String look() {
        StringBuilder text = new StringBuilder();
        text.append("clock " + tick + " returning " + returning() + " queued " + queued() + " least " + leastTicks());
        for (Flow f : flows) {
            text.append("\n flow " + f.id + ": " + f.sentIn.size() + " " + f.arrived.size() + " " + f.lost + " "
                    + f.late + " " + f.done + " " + f.spines.size() + " "
                    + (f.spines.isEmpty() ? NONE : f.spines.get(f.spines.size() - 1)));
        }
        for (int h = 0; h < 16; h++) {
            text.append("\n host " + h + ": " + queues.get("up" + h).size() + " " + queues.get("down" + h).size()
                    + " " + credits("up" + h) + " " + open(h));
        }
        for (int l = 0; l < 4; l++) {
            for (int s = 0; s < 4; s++) {
                text.append("\n leaf " + l + " spine " + s + ": " + queues.get("north" + l + s).size() + " "
                        + queues.get("south" + s + l).size() + " " + credits("north" + l + s));
                if (l != s) {
                    int bits = 0;
                    for (int u : usable(l, s)) {
                        bits += 1 << u;
                    }
                    text.append(" usable from leaf " + l + " to leaf " + s + ": " + bits);
                }
            }
        }
        return text.toString();
    }
}
