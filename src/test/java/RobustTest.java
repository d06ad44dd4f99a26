import java.util.Random;

/** Any arguments in any state, far beyond 512 calls: no call throws, and the same calls answer the same. */
public final class RobustTest {
    private static final int[] EDGES = {
        Integer.MIN_VALUE, Integer.MIN_VALUE + 1, -257, -256, -255, -2, -1, 0, 1, 2, 3, 7, 8, 9, 10, 16, 17, 20, 31, 32,
        127, 128, 130, 247, 248, 253, 254, 255, 256, 1785, 1786, 5000, 5001, 61184, 65226, 65280, 262143, 262144,
        524287, 524288, Integer.MAX_VALUE - 1, Integer.MAX_VALUE
    };

    private final Random random;
    private final ClaimBus bus = new ClaimBus();

    private RobustTest(int seed) {
        random = new Random(seed);
    }

    public static void main(String[] args) {
        boolean right = true;
        for (int seed = 0; seed < 60; seed++) {
            if (new RobustTest(seed).run() != new RobustTest(seed).run()) {
                System.out.println("the same calls answered otherwise, seed " + seed);
                right = false;
            }
        }
        longRow();
        System.out.println("RobustTest: " + (right ? "right" : "wrong"));
        System.exit(right ? 0 : 1);
    }

    /** Ends at all: what it answers is free. */
    private static void longRow() {
        ClaimBus bus = new ClaimBus();
        bus.node(0, 1, 10, false, 1);
        bus.node(0, 2, 20, false, 1);
        bus.start(0);
        bus.start(1);
        bus.pass(300);
        for (int i = 0; i < 20000; i++) {
            bus.send(0, 255, 65280, 1, i);
        }
        bus.pass(5000);
        bus.request(1, 255);
        bus.pass(5000);
    }

    private int any() {
        return random.nextInt(3) == 0 ? random.nextInt() : EDGES[random.nextInt(EDGES.length)];
    }

    private int some(int bound) {
        return random.nextInt(12) == 0 ? any() : random.nextInt(bound);
    }

    private long run() {
        long sum = 0;
        for (int i = 0; i < 8; i++) {
            bus.node(random.nextInt(2), i, random.nextInt(3) == 0 ? random.nextInt(248) : 130, random.nextInt(4) > 0, 1 + random.nextInt(16));
            bus.start(i);
        }
        for (int k = 0; k < 4000; k++) {
            sum = sum * 31 + call(random.nextInt(20));
        }
        return sum;
    }

    private int call(int kind) {
        int node = some(8);
        switch (kind) {
            case 0: return bus.node(any(), any(), any(), random.nextBoolean(), any());
            case 1: return bus.start(node) ? 1 : 0;
            case 2: return random.nextInt(4) == 0 && bus.stop(node) ? 1 : 0;
            case 3: return bus.request(node, any()) ? 1 : 0;
            case 4: return bus.send(node, any(), any(), any(), any()) ? 1 : 0;
            case 5: return bus.send(node, bus.told(some(8), 1), 61184, some(1786), any()) ? 1 : 0;
            case 6: return bus.send(node, 255, 65280 + random.nextInt(3), some(1786), any()) ? 1 : 0;
            case 7: return bus.trouble(node, any(), any(), any());
            case 8: return bus.trouble(node, 1, some(32), some(128));
            case 9: return bus.tell(node) ? 1 : 0;
            case 10: return bus.lose(node, some(51)) ? 1 : 0;
            case 11: return bus.pass(any());
            case 12: return bus.pass(1 + random.nextInt(1300));
            case 13: return bus.told(node, some(8));
            case 14: return bus.table(node, any());
            case 15: return bus.message(node, any(), some(5));
            case 16: return bus.kept(node, any(), any(), some(4));
            case 17: return bus.carried(some(5));
            case 18: return bus.sound() ? 1 : 0;
            default: return bus.count(some(5));
        }
    }
}
