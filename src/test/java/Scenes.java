/** Fabrics that several tests begin with. */
final class Scenes {
    private Scenes() {
    }

    /** Cuts all connections but those of spine 0. */
    static void onlySpine0(Fabric x) {
        onlySpine(x, 0);
    }

    static void onlySpine(Fabric x, int spine) {
        for (int leaf = 0; leaf < 4; leaf++) {
            for (int s = 0; s < 4; s++) {
                if (s != spine) {
                    x.cut(leaf, s);
                }
            }
        }
    }

    static final int BUSY = 3;

    /**
     * Every host sends to others, two flows have not started, two connections are cut: packets and credits are
     * everywhere, and whose turn it is shows at many links, at others in each kind of 0 to 2. 2 flows fit in yet.
     */
    static Fabric busy(int kind) {
        int[] delay = {2, 0, 5};
        int[] factor = {5, 3, 7};
        int[] shift = {6, 9, 5};
        Fabric x = new Fabric();
        x.reset(delay[kind], 3, 16);
        for (int h = 0; h < 16; h++) {
            x.addFlow(h, (factor[kind] * h + shift[kind]) % 16, 100, h % 3);
        }
        for (int h = 0; h < 4; h++) {
            x.addFlow(4 * h + 1, 4 * h + (kind == 0 ? 0 : 1 + kind), 60, 0);
        }
        x.addFlow(0, 9, 12, 40);
        x.addFlow(6, 3, 12, 50);
        x.pass(9);
        x.cut(0, 2);
        x.cut(3, 1);
        x.pass(11);
        return x;
    }
}
