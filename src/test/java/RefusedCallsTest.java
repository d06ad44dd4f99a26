import java.util.ArrayList;
import java.util.List;
import java.util.function.Consumer;
import java.util.function.ToIntFunction;

/**
 * A refused call changes nothing that a later call shows: two like buses, one with refused calls and one
 * without, answer alike from then on.
 */
public final class RefusedCallsTest extends Checks {
    private RefusedCallsTest() {
    }

    public static void main(String[] args) {
        sentence("refused calls on a new object");
        changesNothing(bus -> { }, RefusedCallsTest::refusedByEmptyOne);
        sentence("refused calls on a bus at work");
        changesNothing(RefusedCallsTest::work, RefusedCallsTest::refusedAtWork);
        sentence("refused calls to nodes that can't");
        changesNothing(RefusedCallsTest::work, RefusedCallsTest::refusedByState);
        sentence("refused calls on a full bus");
        changesNothing(RefusedCallsTest::fill, RefusedCallsTest::refusedByFullOne);
        sentence("refused looks");
        changesNothing(RefusedCallsTest::work, RefusedCallsTest::refusedLooks);
        end("RefusedCallsTest");
    }

    private static void changesNothing(Consumer<ClaimBus> before, ToIntFunction<ClaimBus> refused) {
        ClaimBus with = new ClaimBus();
        ClaimBus without = new ClaimBus();
        before.accept(with);
        before.accept(without);
        due("calls that were not refused", refused.applyAsInt(with), 0);
        List<Integer> want = goesOn(without);
        List<Integer> got = goesOn(with);
        due("answers", got.size(), want.size());
        for (int i = 0; i < want.size(); i++) {
            due("answer " + i + " behind them", got.get(i), want.get(i));
        }
    }

    /** 0 HAS, sends to 1 and collects; 1 HAS, sends to all, gets and loses the next; 2 claims, 3 has NONE, 4 is off. */
    private static void work(ClaimBus bus) {
        int[] addresses = {10, 20, 130, 10, 247};
        for (int i = 0; i < 5; i++) {
            bus.node(0, i + 1, addresses[i], i == 2, 3 + i);
            if (i != 2 && i != 4) {
                bus.start(i);
            }
        }
        bus.pass(300);
        bus.trouble(1, 524287, 31, 127);
        bus.tell(1);
        bus.pass(1);
        for (int i = 0; i < 10; i++) {
            bus.trouble(0, i, i, i);
        }
        bus.send(1, 255, TO_ALL_GROUP, 30, 9);
        bus.pass(1);
        bus.send(0, 20, TO_ONE_GROUP, 60, 1);
        bus.pass(4);
        bus.start(2);
        bus.pass(1);
        bus.request(0, 200);
        bus.lose(1, 2);
        for (int i = 0; i < 5; i++) {
            due("state", bus.told(i, 0), new int[] {2, 2, 1, 3, 0}[i]);
            due("under way", bus.told(i, 3), i < 2 ? 1 : 0);
        }
        due("packets and a request wait", bus.told(0, 2) > 1 ? 1 : 0, 1);
        due("gets", bus.told(1, 5), 1);
        due("collects", bus.told(0, 5), 1);
    }

    private static void fill(ClaimBus bus) {
        for (int i = 0; i < 8; i++) {
            bus.node(i, i, 130, true, 16);
            bus.start(i);
        }
        bus.pass(600);
        due("all have an address", bus.count(3), 8);
    }

    private static int number(boolean yes) {
        return yes ? 1 : 0;
    }

    private static int isBad(int answer) {
        return answer == -1 ? 0 : 1;
    }

    private static int refusedByEmptyOne(ClaimBus bus) {
        int taken = 0;
        taken += isBad(bus.node(1, 2, 248, true, 1)) + isBad(bus.node(1, 2, -1, true, 1));
        taken += isBad(bus.node(1, 2, 0, true, 0)) + isBad(bus.node(1, 2, 0, true, 17));
        taken += number(bus.start(0)) + number(bus.stop(0)) + number(bus.request(0, 255)) + number(bus.tell(0));
        taken += number(bus.send(0, 255, TO_ALL_GROUP, 1, 1)) + number(bus.lose(0, 1)) + isBad(bus.trouble(0, 1, 1, 1));
        taken += isBad(bus.pass(0)) + isBad(bus.pass(5001)) + isBad(bus.pass(-1));
        return taken;
    }

    /** Numbers that are out of bounds, of nodes that could do it. */
    private static int refusedAtWork(ClaimBus bus) {
        int taken = 0;
        taken += isBad(bus.pass(0)) + isBad(bus.pass(5001)) + isBad(bus.pass(MOST)) + isBad(bus.pass(LEAST));
        taken += isBad(bus.node(0, 1, 50, true, 1)) + isBad(bus.node(9, 9, 248, true, 1));
        taken += isBad(bus.node(9, 9, 50, true, 17)) + isBad(bus.node(0, 3, 50, true, 1));
        for (int node : new int[] {0, 1}) {
            taken += number(bus.start(node));
            taken += number(bus.request(node, 254)) + number(bus.request(node, 256)) + number(bus.request(node, -1));
            taken += number(bus.lose(node, 51)) + number(bus.lose(node, -1)) + number(bus.lose(node, MOST));
            taken += isBad(bus.trouble(node, 524288, 1, 1)) + isBad(bus.trouble(node, -1, 1, 1));
            taken += isBad(bus.trouble(node, 1, 32, 1)) + isBad(bus.trouble(node, 1, -1, 1));
            taken += isBad(bus.trouble(node, 1, 1, 128)) + isBad(bus.trouble(node, 1, 1, -1));
            taken += number(bus.tell(node)) + number(bus.send(node, 255, TO_ALL_GROUP, 1, 1));
            taken += number(bus.send(node, 255, TO_ALL_GROUP, 9, 1)) + number(bus.send(node, 10, TO_ONE_GROUP, 9, 1));
        }
        return taken + isBad(bus.trouble(0, 1, 1, 1));
    }

    /** Calls that are right but for the state of the node, or for there being no such node. */
    private static int refusedByState(ClaimBus bus) {
        int taken = 0;
        for (int node : new int[] {LEAST, -1, 2, 3, 4, 5, 8, MOST}) {
            taken += node == 4 ? 0 : number(bus.start(node));
            taken += node == 2 || node == 3 ? 0 : number(bus.stop(node));
            taken += number(bus.request(node, 255)) + number(bus.request(node, 10)) + number(bus.tell(node));
            taken += number(bus.send(node, 255, TO_ALL_GROUP, 1, 1)) + number(bus.send(node, 10, TO_ONE_GROUP, 8, 1));
            taken += number(bus.send(node, 255, TO_ALL_GROUP, 9, 1)) + number(bus.send(node, 10, TO_ONE_GROUP, 9, 1));
            if (node < 0 || node > 4) {
                taken += number(bus.lose(node, 1)) + isBad(bus.trouble(node, 1, 1, 1));
            }
        }
        return taken;
    }

    /** The ninth node, and what is wrong in a send() of nodes that have nothing else under way. */
    private static int refusedByFullOne(ClaimBus bus) {
        int taken = isBad(bus.node(9, 9, 0, true, 16)) + isBad(bus.node(0, 9, 247, false, 1));
        for (int node = 0; node < 8; node++) {
            taken += number(bus.send(node, 254, TO_ONE_GROUP, 9, 1)) + number(bus.send(node, 256, TO_ONE_GROUP, 1, 1));
            taken += number(bus.send(node, 10, TO_ALL_GROUP, 9, 1)) + number(bus.send(node, 253, 240 << 8, 8, 1));
            taken += number(bus.send(node, 255, TO_ONE_GROUP + 1, 9, 1)) + number(bus.send(node, 255, 262144, 8, 1));
            taken += number(bus.send(node, 255, -1, 9, 1)) + number(bus.send(node, 10, 238 << 8, 8, 1));
            taken += number(bus.send(node, 255, 234 << 8, 3, 1)) + number(bus.send(node, 10, 235 << 8, 8, 1));
            taken += number(bus.send(node, 10, 236 << 8, 8, 1)) + number(bus.send(node, 255, 236 << 8, 9, 1));
            taken += number(bus.send(node, 10, TO_ONE_GROUP, 0, 1)) + number(bus.send(node, 10, TO_ONE_GROUP, 1786, 1));
            taken += number(bus.send(node, 255, TO_ALL_GROUP, 0, 1)) + number(bus.send(node, 255, TO_ALL_GROUP, 1786, 1));
        }
        return taken;
    }

    private static int refusedLooks(ClaimBus bus) {
        int taken = 0;
        for (int i = -1; i < 6; i++) {
            taken += isBad(bus.told(i, -1)) + isBad(bus.told(i, 7)) + isBad(bus.table(i, 254)) + isBad(bus.table(i, -1));
            taken += isBad(bus.message(i, 20, 0)) + isBad(bus.message(i, 0, 4)) + isBad(bus.message(i, -1, 0));
            taken += isBad(bus.kept(i, 254, -1, 0)) + isBad(bus.kept(i, 20, 10, 0)) + isBad(bus.kept(i, 20, -2, 0));
        }
        return taken + bus.carried(4) + bus.carried(-1) + isBad(bus.count(4)) + isBad(bus.count(-1));
    }

    /** What a bus answers to all kinds of calls, and to looks between them. */
    private static List<Integer> goesOn(ClaimBus bus) {
        List<Integer> answers = new ArrayList<>();
        looks(bus, answers);
        answers.add(bus.pass(1));
        looks(bus, answers);
        answers.add(bus.pass(1400));
        looks(bus, answers);
        answers.add(bus.node(1, 2, 0, true, 1));
        answers.add(bus.node(9, 9, 50, true, 1));
        for (int i = 0; i < 6; i++) {
            answers.add(bus.trouble(i, 1, 1, 1));
            answers.add(number(bus.start(i)));
        }
        answers.add(bus.pass(300));
        for (int i = 0; i < 6; i++) {
            answers.add(number(bus.tell(i)));
            answers.add(number(bus.send(i, 10, TO_ONE_GROUP, 20, i)));
        }
        answers.add(bus.pass(100));
        looks(bus, answers);
        return answers;
    }

    private static void looks(ClaimBus bus, List<Integer> answers) {
        for (int i = 0; i < 6; i++) {
            for (int what = 0; what < 7; what++) {
                answers.add(bus.told(i, what));
            }
            answers.add(bus.table(i, 10));
            answers.add(bus.table(i, 130));
            answers.add(bus.kept(i, 20, -1, 0));
            answers.add(bus.message(i, 0, 3));
        }
        for (int what = 0; what < 4; what++) {
            answers.add(bus.carried(what));
            answers.add(bus.count(what));
        }
        answers.add(number(bus.sound()));
    }
}
