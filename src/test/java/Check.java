/** What the tests share: comparing answers, counting the wrong ones, and looking at a whole fabric. */
final class Check {
    /** A call that does not end must fail the test too; this is far more than any test needs. */
    private static final long MOST_MILLIS = 300_000L;

    private static int wrong = 0;
    private static int made = 0;

    static {
        Thread guard = new Thread(Check::stopWhatDoesNotEnd);
        guard.setDaemon(true);
        guard.start();
    }

    private Check() {
    }

    private static void stopWhatDoesNotEnd() {
        try {
            Thread.sleep(MOST_MILLIS);
        } catch (InterruptedException e) {
            return;
        }
        System.out.println("  the test does not end");
        Runtime.getRuntime().halt(1);
    }

    static void due(String what, long got, long want) {
        made++;
        if (got != want) {
            wrong++;
            System.out.println("  " + what + " answered " + got + ", due is " + want);
        }
    }

    /** Of a text of several lines, such as that of look, the first wrong line is told. */
    static void due(String what, String got, String want) {
        made++;
        if (got.equals(want)) {
            return;
        }
        wrong++;
        String[] gotLines = got.split("\n");
        String[] wantLines = want.split("\n");
        int at = 0;
        while (at < gotLines.length - 1 && at < wantLines.length - 1 && gotLines[at].equals(wantLines[at])) {
            at++;
        }
        System.out.println("  " + what + " answered " + gotLines[at] + ", due is " + wantLines[at]);
    }

    static void taken(String what, Runnable call) {
        due(what + " throws", thrownBy(call), "nothing");
    }

    static void illegalArgument(String what, Fabric x, Runnable call) {
        refused(what, x, call, "IllegalArgumentException");
    }

    static void illegalState(String what, Fabric x, Runnable call) {
        refused(what, x, call, "IllegalStateException");
    }

    static void noSuchFlow(String what, Fabric x, Runnable call) {
        refused(what, x, call, "IndexOutOfBoundsException");
    }

    /** The call throws exactly this exception, and changes nothing that can be looked at. */
    private static void refused(String what, Fabric x, Runnable call, String want) {
        String before = look(x);
        due(what + " throws", thrownBy(call), want);
        due("the state behind the refused " + what, look(x), before);
    }

    static String thrownBy(Runnable call) {
        try {
            call.run();
            return "nothing";
        } catch (RuntimeException e) {
            return e.getClass().getSimpleName();
        }
    }

    /** Every answer that a fabric gives about itself, as one text. */
    static String look(Fabric x) {
        StringBuilder text = new StringBuilder();
        text.append("clock ").append(x.clock()).append(" returning ").append(x.returning());
        text.append(" queued ").append(x.queued()).append(" least ").append(x.leastTicks());
        for (int f = 0; f < x.flows(); f++) {
            text.append("\n flow ").append(f).append(": ").append(x.sent(f)).append(' ').append(x.delivered(f));
            text.append(' ').append(x.lost(f)).append(' ').append(x.outOfOrder(f)).append(' ').append(x.doneIn(f));
            text.append(' ').append(x.flowlets(f)).append(' ').append(x.spineOf(f));
        }
        for (int h = 0; h < 16; h++) {
            text.append("\n host ").append(h).append(": ").append(x.upQueue(h)).append(' ').append(x.downQueue(h));
            text.append(' ').append(x.upCredits(h)).append(' ').append(x.open(h));
        }
        for (int i = 0; i < 16; i++) {
            int leaf = i / 4;
            int spine = i % 4;
            text.append("\n leaf ").append(leaf).append(" spine ").append(spine).append(": ");
            text.append(x.northQueue(leaf, spine)).append(' ').append(x.southQueue(spine, leaf));
            text.append(' ').append(x.northCredits(leaf, spine));
            if (leaf != spine) {
                text.append(" usable from leaf ").append(leaf).append(" to leaf ").append(spine);
                text.append(": ").append(x.usable(leaf, spine));
            }
        }
        return text.toString();
    }

    static void finish(String name) {
        System.out.println(name + ": " + made + " checks, " + wrong + " wrong");
        if (wrong != 0 || made == 0) {
            System.exit(1);
        }
    }
}
