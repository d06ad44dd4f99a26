import java.lang.reflect.Field;

/**
 * The false side of sound(). No run of calls reaches it (that is the theorem): only behind lost frames have two
 * nodes one address, or is a message mixed. So the counts of lost frames are set back here, by reflection.
 */
public final class SoundTest extends Checks {
    private SoundTest() {
    }

    public static void main(String[] args) throws ReflectiveOperationException {
        if (!holdsLostFramesInNodes()) {
            System.out.println("SoundTest: the class holds its state otherwise: nothing to set back");
            return;
        }
        sentence("16: whether no two nodes HAVE one address");
        for (int[] pair : new int[][] {{0, 1}, {0, 7}, {1, 2}, {3, 5}, {6, 7}}) {
            twoAtOneAddress(pair[0], pair[1]);
        }
        addressesOfOtherStates();
        sentence("16: and each message longer than eight bytes that came has the bytes that it had when it was sent");
        for (int receiver = 0; receiver < 4; receiver++) {
            mixedMessage(receiver, 2, 1);
            mixedMessage(receiver, 2, 2);
            mixedMessage(receiver, 1, 3);
        }
        end("SoundTest");
    }

    private static boolean holdsLostFramesInNodes() {
        boolean hasNodes = false;
        for (Field field : ClaimBus.class.getDeclaredFields()) {
            hasNodes |= field.getName().equals("nodes") && Object[].class.isAssignableFrom(field.getType());
        }
        boolean hasLost = false;
        for (Class<?> inside : ClaimBus.class.getDeclaredClasses()) {
            for (Field field : inside.getDeclaredFields()) {
                hasLost |= inside.getSimpleName().equals("Node") && field.getName().equals("lost");
            }
        }
        return hasNodes && hasLost;
    }

    /** As if no frame had been lost. */
    private static void setLostBack(ClaimBus bus) throws ReflectiveOperationException {
        Field nodes = ClaimBus.class.getDeclaredField("nodes");
        nodes.setAccessible(true);
        for (Object one : (Object[]) nodes.get(bus)) {
            if (one != null) {
                Field lost = one.getClass().getDeclaredField("lost");
                lost.setAccessible(true);
                lost.setInt(one, 0);
            }
        }
    }

    private static void twoAtOneAddress(int one, int other) throws ReflectiveOperationException {
        int third = 0;
        while (third == one || third == other) {
            third++;
        }
        ClaimBus bus = new ClaimBus();
        for (int i = 0; i < 8; i++) {
            bus.node(0, i, i == other ? 10 + one : 10 + i, false, 1);
            if (i != other) {
                bus.start(i);
            }
        }
        bus.pass(300);
        bus.lose(one, 1);
        bus.start(other);
        bus.pass(250);
        setLostBack(bus);
        yes("one of them claims still", bus.sound());
        bus.lose(one, 1);
        bus.request(third, 253);
        bus.pass(1);
        due("lost", bus.told(one, 6), 1);
        bus.pass(10);
        yes("a frame was lost", bus.sound());
        setLostBack(bus);
        due("all have an address", bus.count(3), 8);
        no("nodes " + one + " and " + other, bus.sound());
        bus.stop(third);
        yes("a node stopped", bus.sound());
    }

    private static void addressesOfOtherStates() {
        ClaimBus bus = new ClaimBus();
        for (int i = 0; i < 6; i++) {
            bus.node(0, i, 10, false, 1);
        }
        yes("off", bus.sound());
        for (int i = 0; i < 4; i++) {
            bus.start(i);
            yes("claiming", bus.sound());
        }
        bus.pass(300);
        due("one has it", bus.count(3), 1);
        yes("three have none, two are off", bus.sound());
    }

    /**
     * Two senders have one address; the receiver takes the packets of the first, longer one for those of the
     * second one. A rival takes the address from both then.
     */
    private static void mixedMessage(int receiver, int seed, int otherSeed) throws ReflectiveOperationException {
        int[] nodes = new int[4];
        for (int i = 0; i < 4; i++) {
            nodes[i] = (receiver + i) % 4;
        }
        int one = nodes[1];
        int other = nodes[2];
        int rival = nodes[3];
        ClaimBus bus = new ClaimBus();
        for (int i = 0; i < 4; i++) {
            bus.node(i == rival ? 0 : 1, i, i == receiver ? 20 : 10, false, 1);
        }
        bus.start(receiver);
        bus.start(one);
        bus.pass(300);
        bus.lose(one, 1);
        bus.start(other);
        bus.pass(300);
        due("all have an address", bus.count(3), 3);
        bus.send(one, 255, TO_ALL_GROUP, 28, seed);
        bus.pass(10);
        bus.send(other, 255, TO_ALL_GROUP, 9, otherSeed);
        bus.pass(45);
        bus.lose(receiver, 1);
        bus.pass(46);
        due("a message of nine bytes", bus.message(receiver, 0, 2), 9);
        due("with those of the other one", bus.message(receiver, 0, 3), sum(9, seed));
        bus.start(rival);
        bus.pass(300);
        due("one has each address", bus.count(3), 2);
        yes("a frame was lost", bus.sound());
        setLostBack(bus);
        due("whether it has its bytes", bus.sound() ? 1 : 0, seed == otherSeed ? 1 : 0);
    }
}
