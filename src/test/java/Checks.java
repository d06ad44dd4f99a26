/** What the tests by hand share: counting what is due, and small buses to begin with. */
abstract class Checks {
    static final int TO_ALL_GROUP = 65280;
    static final int TO_ONE_GROUP = 61184;
    static final int TROUBLE_GROUP = 65226;
    static final int LEAST = Integer.MIN_VALUE;
    static final int MOST = Integer.MAX_VALUE;

    private static int wrong = 0;
    private static int right = 0;
    private static String sentence = "";

    /** What the document says, and the checks that follow look at. */
    static void sentence(String text) {
        sentence = text;
    }

    static void end(String test) {
        System.out.println(test + ": " + right + " right, " + wrong + " wrong");
        System.exit(wrong == 0 ? 0 : 1);
    }

    static void due(String what, int got, int want) {
        if (got == want) {
            right++;
        } else {
            wrong++;
            System.out.println(sentence + ": " + what + " answered " + got + ", due is " + want);
        }
    }

    static void yes(String what, boolean got) {
        due(what, got ? 1 : 0, 1);
    }

    static void no(String what, boolean got) {
        due(what, got ? 1 : 0, 0);
    }

    /** Nodes 0, 1, .. with the addresses 10, 20, .. that are not free, on, 300 milliseconds old. */
    static ClaimBus fixed(int... windows) {
        ClaimBus bus = new ClaimBus();
        for (int i = 0; i < windows.length; i++) {
            bus.node(0, i + 1, 10 * (i + 1), false, windows[i]);
            bus.start(i);
        }
        bus.pass(300);
        return bus;
    }

    /** Nodes 0 and 1 that both have address 10, since a claim was lost. */
    static ClaimBus twins() {
        ClaimBus bus = new ClaimBus();
        bus.node(0, 1, 10, false, 1);
        bus.node(0, 2, 10, false, 1);
        bus.start(0);
        bus.pass(300);
        bus.lose(0, 1);
        bus.start(1);
        bus.pass(300);
        return bus;
    }

    /**
     * Makes the bus busy for so many milliseconds from now on: requests to all, each of which the other
     * nodes that are on answer with a claim, then frames of the least group to an address that none has.
     */
    static void busy(ClaimBus bus, int node, int nodesOn, int milliseconds) {
        for (int i = 0; i < milliseconds / nodesOn; i++) {
            bus.request(node, 255);
        }
        for (int i = 0; i < milliseconds % nodesOn; i++) {
            bus.send(node, 253, 0, 1, 0);
        }
    }

    static void pass(ClaimBus bus, int milliseconds) {
        for (int left = milliseconds; left > 0; left -= 5000) {
            bus.pass(Math.min(left, 5000));
        }
    }

    static int identifier(int format, int to, int source) {
        return 7 << 26 | format << 16 | to << 8 | source;
    }

    static int claim(int source) {
        return 6 << 26 | 238 << 16 | 255 << 8 | source;
    }

    static int four(int a, int b, int c, int d) {
        return a | b << 8 | c << 16 | d << 24;
    }

    static int sum(int size, int seed) {
        int sum = 0;
        for (int i = 0; i < size; i++) {
            sum += (seed + i * i + i / 256 & 255) * (i + 1);
        }
        return sum;
    }

    static void carried(ClaimBus bus, String what, int identifier, int first, int others, int node) {
        due(what + ": carried(0)", bus.carried(0), identifier);
        due(what + ": carried(1)", bus.carried(1), first);
        due(what + ": carried(2)", bus.carried(2), others);
        due(what + ": carried(3)", bus.carried(3), node);
    }
}
