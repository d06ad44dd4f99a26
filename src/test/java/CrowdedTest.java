import com.sun.management.ThreadMXBean;
import java.lang.management.ManagementFactory;
import java.lang.reflect.Field;
import java.lang.reflect.Modifier;
import java.util.ArrayDeque;
import java.util.Collections;
import java.util.IdentityHashMap;
import java.util.List;
import java.util.Random;
import java.util.Set;

/**
 * Runs in which very many frames wait (nodes that share an address hear each other's 17s): each answer compared
 * with that of the plain second reading, and what such a run makes with the room that all its calls have.
 */
public final class CrowdedTest {
    private static final int MOST_CALLS = 512;
    private static final int MOST_TOLD = 5;
    private static final int MOST_OBJECTS = 600000;
    private static final int MOST_ELEMENTS = 7300000;
    private static final long BYTES_OF_ALL = 16L * MOST_OBJECTS + 8L * MOST_ELEMENTS;
    private static final ThreadMXBean THREADS = (ThreadMXBean) ManagementFactory.getThreadMXBean();
    private static final int GROUP = 256;
    private static final int HIGHEST_GROUP = 262143;

    private final ClaimBus bus = new ClaimBus();
    private final PlainBus plain = new PlainBus();
    private int calls = 0;
    private int wrong = 0;
    /** The bytes of all objects that pass() made, those that it forgot too. */
    private long madeByPass = 0;

    private CrowdedTest() {
    }

    public static void main(String[] args) {
        int randomRuns = args.length > 0 ? Integer.parseInt(args[0]) : 100;
        int bad = 0;
        bad += waiting("two senders that hear", 8, 5, 3, 16, 16, false, 250000);
        bad += waiting("one sender that hears, windows of 1", 8, 6, 2, 1, 1, false, 180000);
        bad += waiting("all at one address", 8, 8, 3, 1, 1, false, 300000);
        bad += waiting("receivers whose 17s wait", 8, 7, 1, 16, 1, true, 300000);
        int deepest = 0;
        for (int seed = 0; seed < randomRuns && bad < 3; seed++) {
            CrowdedTest run = new CrowdedTest();
            deepest = Math.max(deepest, run.randomRun(new Random(seed)));
            bad += run.ended("random " + seed);
        }
        System.out.println("CrowdedTest: " + bad + " wrong; most frames that waited in a random run: " + deepest);
        System.exit(bad == 0 ? 0 : 1);
    }

    private int ended(String what) {
        if (calls > MOST_CALLS) {
            wrong++;
            System.out.println(what + ": " + calls + " calls");
        }
        if (wrong > 0) {
            System.out.println(what + ": wrong");
        }
        return wrong > 0 ? 1 : 0;
    }

    private void same(String what, int got, int due) {
        if (got != due) {
            wrong++;
            if (wrong <= MOST_TOLD) {
                System.out.println("call " + calls + ": " + what + " answered " + got + ", due is " + due);
            }
        }
    }

    private static int number(boolean yes) {
        return yes ? 1 : 0;
    }

    /** Nodes on, each with the address that it wants: what comes meanwhile is lost, so that none gives way. */
    private void nodes(int[] addresses, int[] windows) {
        for (int i = 0; i < addresses.length; i++) {
            calls += 3;
            same("node", bus.node(0, i + 1, addresses[i], false, windows[i]),
                plain.node(0, i + 1, addresses[i], false, windows[i]));
            bus.lose(i, addresses.length - 1);
            plain.lose(i, addresses.length - 1);
        }
        for (int i = 0; i < addresses.length; i++) {
            bus.start(i);
            plain.start(i);
        }
        pass(250 + addresses.length);
    }

    private void pass(int milliseconds) {
        calls++;
        int due = plain.pass(milliseconds);
        passOf(milliseconds, due);
        compare();
    }

    private void passOf(int milliseconds, int due) {
        long before = THREADS.getCurrentThreadAllocatedBytes();
        int got = bus.pass(milliseconds);
        madeByPass += THREADS.getCurrentThreadAllocatedBytes() - before;
        same("pass", got, due);
    }

    private void send(int node, int to, int group, int size, int seed) {
        calls++;
        same("send", number(bus.send(node, to, group, size, seed)), number(plain.send(node, to, group, size, seed)));
    }

    // not counted as calls: the test looks at far more than a run of 512 calls could ask
    private void compare() {
        for (int i = 0; i < plain.nodes.size(); i++) {
            for (int what = 0; what < 7; what++) {
                same("told " + i + " " + what, bus.told(i, what), plain.told(i, what));
            }
        }
        for (int what = 0; what < 4; what++) {
            same("carried " + what, bus.carried(what), plain.carried(what));
        }
        same("frames carried", bus.count(2), plain.count(2));
    }

    private int allThatWait() {
        int many = 0;
        for (int i = 0; i < plain.nodes.size(); i++) {
            many += plain.told(i, 2);
        }
        return many;
    }

    /**
     * A run of 512 calls: node 0 sends to all nodes behind the senders, again and again; a frame with the highest
     * identifier stands before all that the other senders put, or (receiversStand) the receivers but one.
     */
    private static int waiting(String what, int nodes, int receivers, int senders, int window, int others,
            boolean receiversStand, int least) {
        CrowdedTest run = new CrowdedTest();
        boolean oneAddress = receivers == nodes;
        int[] addresses = new int[nodes];
        int[] windows = new int[nodes];
        for (int i = 0; i < nodes; i++) {
            addresses[i] = oneAddress || i < senders ? 1 : 2;
            windows[i] = i <= senders ? window : others;
        }
        run.nodes(addresses, windows);
        for (int i = 1; i < nodes; i++) {
            if (receiversStand ? i > senders : i < senders) {
                run.send(i, 255, HIGHEST_GROUP, 8, 0);
            }
        }
        int to = oneAddress ? 1 : 2;
        while (run.wrong == 0 && run.calls + senders + 2 * 12 < MOST_CALLS) {
            for (int i = senders - 1; i >= 0; i--) {
                run.send(i, to, GROUP, 1785, i);
            }
            run.passUntilDone();
        }
        int most = run.allThatWait();
        if (most < least) {
            run.same(what + ": frames that wait, at least", most, least);
        }
        for (int k = 0; k < 4; k++) {
            run.pass(5000);
        }
        run.drop();
        run.seesRoom(what, most);
        return run.ended(what);
    }

    /** Time goes by until all was carried that does not stand behind a frame with the highest identifier. */
    private void passUntilDone() {
        int milliseconds = 0;
        while (milliseconds < 5000 && somethingMoves()) {
            plain.pass(1);
            milliseconds++;
        }
        calls++;
        passOf(milliseconds, plain.time);
        compare();
    }

    private boolean somethingMoves() {
        long highest = 7L << 26 | (long) HIGHEST_GROUP << 8;
        for (PlainBus.Nd one : plain.nodes) {
            if (!one.row.isEmpty() && one.row.getFirst().id() < highest) {
                return true;
            }
        }
        return false;
    }

    /** What waited is dropped, and the chunks that are free are used again. */
    private void drop() {
        for (int i = 0; i < plain.nodes.size(); i += 2) {
            calls++;
            same("stop", number(bus.stop(i)), number(plain.stop(i)));
        }
        compare();
        pass(5000);
        for (int i = 0; i < plain.nodes.size(); i += 2) {
            calls++;
            same("start", number(bus.start(i)), number(plain.start(i)));
        }
        pass(5000);
    }

    private int randomRun(Random random) {
        int senders = 1 + random.nextInt(4);
        boolean oneAddress = random.nextInt(3) == 0;
        int[] addresses = new int[8];
        int[] windows = new int[8];
        for (int i = 0; i < 8; i++) {
            addresses[i] = oneAddress || i < senders ? 1 : random.nextInt(8) == 0 ? 3 : 2;
            windows[i] = random.nextBoolean() ? 1 + random.nextInt(16) : random.nextBoolean() ? 1 : 16;
        }
        nodes(addresses, windows);
        boolean isSteady = random.nextBoolean();
        for (int i = 1; i < 8 && isSteady; i++) {
            if (random.nextInt(3) == 0) {
                send(i, 255, HIGHEST_GROUP, 8, i);
            }
        }
        int deepest = 0;
        while (calls < MOST_CALLS - 20 && wrong == 0) {
            for (int i = 0; i < 8; i++) {
                randomCall(random, i, i < senders || oneAddress, oneAddress ? 1 : 2);
            }
            if (isSteady && somethingMoves()) {
                passUntilDone();
            } else {
                pass(random.nextInt(5) == 0 ? 1 + random.nextInt(5000) : 1 + random.nextInt(600));
            }
            deepest = Math.max(deepest, allThatWait());
        }
        return deepest;
    }

    private void randomCall(Random random, int node, boolean sends, int to) {
        int kind = random.nextInt(40);
        if (kind == 0) {
            send(node, 255, HIGHEST_GROUP, 1 + random.nextInt(8), random.nextInt());
        } else if (kind == 1) {
            calls++;
            int asked = random.nextInt(3) == 0 ? 255 : 1 + random.nextInt(3);
            same("request", number(bus.request(node, asked)), number(plain.request(node, asked)));
        } else if (kind == 2) {
            calls++;
            int frames = random.nextInt(51);
            same("lose", number(bus.lose(node, frames)), number(plain.lose(node, frames)));
        } else if (kind == 3 && random.nextInt(4) == 0) {
            calls++;
            same("stop", number(bus.stop(node)), number(plain.stop(node)));
        } else if (kind == 4) {
            calls++;
            same("start", number(bus.start(node)), number(plain.start(node)));
        } else if (kind < 7) {
            send(node, 1 + random.nextInt(3), GROUP, 1 + random.nextInt(1785), random.nextInt());
        } else if (kind < 9) {
            send(node, 255, HIGHEST_GROUP - 1, 1 + random.nextInt(60), random.nextInt());
        } else if (sends && kind < 24) {
            send(node, to, GROUP, random.nextInt(3) == 0 ? 1 + random.nextInt(1785) : 1785, random.nextInt());
        }
    }

    /** What a run made: what is kept, and what pass() made and forgot, as its bytes tell. */
    private void seesRoom(String what, int waited) {
        Set<Object> seen = Collections.newSetFromMap(new IdentityHashMap<>());
        ArrayDeque<Object> open = new ArrayDeque<>();
        long elements = 0;
        open.add(bus);
        seen.add(bus);
        try {
            while (!open.isEmpty()) {
                elements += look(open.remove(), open, seen);
            }
        } catch (IllegalAccessException e) {
            wrong++;
            System.out.println(e);
        }
        System.out.println(what + ": " + waited + " frames waited; " + seen.size() + " objects, " + elements
            + " elements; pass() made " + madeByPass + " bytes");
        if (seen.size() > MOST_OBJECTS || elements > MOST_ELEMENTS || madeByPass > BYTES_OF_ALL) {
            wrong++;
            System.out.println(what + ": too many are made");
        }
    }

    private static long look(Object one, ArrayDeque<Object> open, Set<Object> seen) throws IllegalAccessException {
        if (one instanceof List<?> list) {
            for (Object part : list) {
                add(part, open, seen);
            }
            return 5L + 6L * list.size();
        }
        if (one instanceof Object[] parts) {
            for (Object part : parts) {
                add(part, open, seen);
            }
            return parts.length;
        }
        if (one.getClass().isArray()) {
            return java.lang.reflect.Array.getLength(one);
        }
        long fields = 0;
        for (Field field : one.getClass().getDeclaredFields()) {
            if (!Modifier.isStatic(field.getModifiers())) {
                fields++;
                field.setAccessible(true);
                if (!field.getType().isPrimitive()) {
                    add(field.get(one), open, seen);
                }
            }
        }
        return fields;
    }

    private static void add(Object part, ArrayDeque<Object> open, Set<Object> seen) {
        if (part != null && seen.add(part)) {
            open.add(part);
        }
    }
}
