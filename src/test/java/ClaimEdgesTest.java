/** Each sentence of the Terms about time, the order on the bus, claims and requests that names an edge. */
public final class ClaimEdgesTest extends Checks {
    private static final int HIGHEST = 1 << 31;

    private ClaimEdgesTest() {
    }

    public static void main(String[] args) {
        identifiers();
        leastIdentifierFirst();
        lesserBytesFirst();
        lesserNodeFirst();
        rowsInOrder();
        waitsOf250();
        waitsAnewBehindARequest();
        stillClaiming();
        lesserNames();
        lesserNamesOfWhoHasIt();
        putsAgain();
        waitsAnewBehindARival();
        dropsAll();
        behindAndRound();
        pastThoseOfTheTable();
        tableOfTheLastClaims();
        noneLeft();
        answersToRequests();
        requestsToOne();
        oneClaimWaits();
        heardByThoseThatAreOn();
        end("ClaimEdgesTest");
    }

    private static void identifiers() {
        sentence("Terms: priority (3), page (2), format (8), specific (8), source (8)");
        ClaimBus bus = new ClaimBus();
        bus.node(0, 1, 0, false, 1);
        bus.node(0, 2, 247, false, 1);
        bus.start(0);
        bus.start(1);
        bus.pass(300);
        int[] pages = {0, 1, 2, 3};
        for (int page : pages) {
            bus.send(0, 0, page << 16, 1, 0);
            bus.pass(1);
            due("least", bus.carried(0), 7 << 26 | page << 24);
            bus.send(1, 253, page << 16 | 239 << 8, 1, 0);
            bus.pass(1);
            due("to one", bus.carried(0), 7 << 26 | page << 24 | 239 << 16 | 253 << 8 | 247);
            bus.send(1, 255, page << 16 | 255 << 8 | 255, 1, 0);
            bus.pass(1);
            due("greatest", bus.carried(0), 7 << 26 | page << 24 | 255 << 16 | 255 << 8 | 247);
        }
        due("all 29 bits but those of 247", (1 << 29) - 1 - bus.carried(0), 8);
    }

    /** Two nodes put a frame each: the lesser one is to go first, whichever node puts it. */
    private static void leastIdentifierFirst() {
        sentence("Terms: the one with the least identifier");
        int[][] pairs = {{0, 1 << 8}, {239 << 8, 240 << 8}, {240 << 8, 240 << 8 | 1}, {65535, 65536}, {255 << 8, 255 << 8 | 1},
            {1 << 16, 2 << 16}, {127 << 8, 128 << 8}, {131071, 131072}};
        for (int[] pair : pairs) {
            for (int turn = 0; turn < 2; turn++) {
                ClaimBus bus = fixed(1, 1);
                bus.send(turn, 255, pair[0], 1, 200);
                bus.send(1 - turn, 255, pair[1], 1, 100);
                bus.pass(1);
                due("groups " + pair[0] + ", " + pair[1], bus.carried(3), turn);
                bus.pass(1);
                due("then the other", bus.carried(3), 1 - turn);
            }
        }
        int[][] receivers = {{0, 1}, {127, 128}, {253, 255}, {20, 30}};
        for (int[] pair : receivers) {
            for (int turn = 0; turn < 2; turn++) {
                ClaimBus bus = fixed(1, 1);
                bus.send(turn, pair[0], TO_ONE_GROUP, 1, 200);
                bus.send(1 - turn, pair[1], TO_ONE_GROUP, 1, 100);
                bus.pass(1);
                due("to " + pair[0] + ", " + pair[1], bus.carried(3), turn);
            }
        }
        ClaimBus bus = fixed(1, 1);
        bus.send(1, 255, TO_ALL_GROUP, 1, 0);
        bus.send(0, 255, TO_ALL_GROUP, 1, 1);
        bus.pass(1);
        due("sources 10, 20, whatever the bytes", bus.carried(3), 0);
        bus = fixed(1, 1);
        bus.request(1, 255);
        bus.pass(1);
        bus.send(1, 0, 0, 1, 0);
        bus.pass(1);
        due("priority 6 before 7", bus.carried(0), claim(10));
        due("though that is the least of 7", bus.told(1, 2), 1);
    }

    private static void lesserBytesFirst() {
        sentence("Terms: of like ones that whose bytes, from the first one on, are less");
        int[][] seeds = {{0, 1}, {127, 128}, {254, 255}, {0, 255}, {1, 200}};
        for (int[] pair : seeds) {
            for (int turn = 0; turn < 2; turn++) {
                ClaimBus bus = twins();
                bus.send(turn, 255, TO_ALL_GROUP, 8, pair[0]);
                bus.send(1 - turn, 255, TO_ALL_GROUP, 8, pair[1]);
                bus.pass(1);
                due("first bytes " + pair[0] + ", " + pair[1], bus.carried(3), turn);
            }
        }
        // the longer one has a byte of its own where the shorter one has 255
        for (int shorter = 1; shorter < 8; shorter++) {
            for (int turn = 0; turn < 2; turn++) {
                ClaimBus bus = twins();
                bus.send(turn, 255, TO_ALL_GROUP, shorter + 1, 0);
                bus.send(1 - turn, 255, TO_ALL_GROUP, shorter, 0);
                bus.pass(1);
                due("byte " + shorter, bus.carried(3), turn);
            }
        }
        for (int turn = 0; turn < 2; turn++) {
            ClaimBus bus = twins();
            bus.send(turn, 255, TO_ALL_GROUP, 1, 3);
            bus.send(1 - turn, 255, TO_ALL_GROUP, 8, 4);
            bus.pass(1);
            due("an earlier byte before later ones", bus.carried(3), turn);
        }
    }

    private static void lesserNodeFirst() {
        sentence("Terms: of these that of the lesser node");
        for (int turn = 0; turn < 2; turn++) {
            ClaimBus bus = twins();
            bus.send(turn, 255, TO_ALL_GROUP, 8, 77);
            bus.send(1 - turn, 255, TO_ALL_GROUP, 8, 77);
            bus.pass(1);
            due("first", bus.carried(3), 0);
            due("the other waits", bus.told(1, 2), 1);
            bus.pass(1);
            due("then", bus.carried(3), 1);
        }
    }

    private static void rowsInOrder() {
        sentence("Terms: a node's frames wait in a row; a claim stands before all others");
        ClaimBus bus = fixed(1, 1);
        bus.send(0, 255, 65535, 1, 1);
        bus.send(0, 255, 0, 1, 2);
        bus.request(0, 77);
        bus.pass(1);
        due("first put, first carried, though it is the greatest", bus.carried(1) & 255, 1);
        bus.request(1, 10);
        bus.pass(1);
        due("then the least", bus.carried(1) & 255, 2);
        bus.pass(1);
        due("the request to 10 is less than that to 77", bus.carried(3), 1);
        due("a claim and a request wait", bus.told(0, 2), 2);
        bus.pass(1);
        due("the claim before the request", bus.carried(0), claim(10));
        bus.pass(1);
        due("the request", bus.carried(0), identifier(234, 77, 10));
    }

    private static void waitsOf250() {
        sentence("Terms: 250 behind the millisecond in which its last claim was carried it HAS the address");
        ClaimBus bus = new ClaimBus();
        for (int i = 0; i < 3; i++) {
            bus.node(0, i, 247 - i, false, 1);
            bus.start(i);
        }
        bus.pass(250);
        due("249 behind the first one carried", bus.count(3), 0);
        for (int i = 2; i >= 0; i--) {
            due("claiming", bus.told(i, 0), 1);
            bus.pass(1);
            due("has it: the claim of the lesser address was carried first", bus.told(i, 0), 2);
            due("has it", bus.count(3), 3 - i);
        }
        due("no more claims", bus.count(2), 3);
    }

    private static void waitsAnewBehindARequest() {
        for (int behind : new int[] {1, 100, 248, 249}) {
            ClaimBus bus = fixed(1);
            bus.node(0, 2, 20, false, 1);
            bus.start(1);
            bus.pass(behind);
            bus.request(0, 20);
            bus.pass(2);
            due("its claim again", bus.carried(0), claim(20));
            bus.pass(249);
            due("asked " + behind + " behind, claiming", bus.told(1, 0), behind < 249 ? 1 : 2);
            bus.pass(1);
            due("has it", bus.told(1, 0), 2);
        }
    }

    /** A lesser name claims the address so many milliseconds behind the claim of the one that is there. */
    private static void stillClaiming() {
        sentence("Terms: if it is still claiming");
        for (int behind : new int[] {1, 248, 249, 250, 251}) {
            ClaimBus bus = new ClaimBus();
            bus.node(0, 5, 130, false, 1);
            bus.node(0, 3, 130, false, 1);
            bus.start(0);
            bus.pass(behind);
            bus.start(1);
            due(behind + " behind", bus.told(0, 0), behind < 251 ? 1 : 2);
            bus.pass(1);
            due("none", bus.told(0, 0), 3);
            bus.pass(300);
            due("none", bus.told(0, 0), 3);
            due("the other has it", bus.told(1, 0), 2);
        }
    }

    private static void lesserNames() {
        sentence("Terms: if its name is less (64 bits, without sign)");
        int[][] pairs = {{0, 0, 0, 1}, {0, MOST, 0, HIGHEST}, {0, HIGHEST, 0, -1}, {0, -1, 1, 0}, {MOST, -1, HIGHEST, 0},
            {HIGHEST, -1, -1, 0}, {-1, -2, -1, -1}, {5, 255, 5, 256}, {0, -1, -1, 0}, {1, HIGHEST, 2, 1}, {0, 0, -1, -1}};
        for (int[] pair : pairs) {
            for (int turn = 0; turn < 4; turn++) {
                int less = turn % 2;
                ClaimBus bus = new ClaimBus();
                for (int i = 0; i < 2; i++) {
                    int at = i == less ? 0 : 2;
                    bus.node(pair[at], pair[at + 1], 99, false, 1);
                }
                bus.start(turn / 2);
                bus.start(1 - turn / 2);
                bus.pass(300);
                due("the lesser one", bus.told(less, 0), 2);
                due("its address", bus.told(less, 1), 99);
                due("the other", bus.told(1 - less, 0), 3);
                due("its address", bus.told(1 - less, 1), 254);
            }
        }
    }

    private static void lesserNamesOfWhoHasIt() {
        int[][] pairs = {{0, MOST, 0, HIGHEST}, {0, -1, 1, 0}, {MOST, 0, HIGHEST, 0}, {-1, -2, -1, -1}};
        for (int[] pair : pairs) {
            for (int hasIt = 0; hasIt < 2; hasIt++) {
                ClaimBus bus = new ClaimBus();
                bus.node(pair[0], pair[1], 99, false, 1);
                bus.node(pair[2], pair[3], 99, false, 1);
                bus.start(hasIt);
                bus.pass(300);
                bus.start(1 - hasIt);
                bus.pass(300);
                due("the lesser one, whoever was there", bus.told(0, 0), 2);
                due("the other", bus.told(1, 0), 3);
            }
        }
    }

    private static void putsAgain() {
        sentence("Terms: it puts its claim again (one that HAS the address has it all the while)");
        ClaimBus bus = fixed(1);
        bus.node(0, 9, 10, true, 1);
        bus.send(0, 255, TO_ALL_GROUP, 100, 1);
        bus.start(1);
        bus.pass(1);
        due("the rival's claim", bus.carried(3), 1);
        due("the rival in its table", bus.table(0, 10), 1);
        due("has it", bus.told(0, 0), 2);
        due("a claim and the 32", bus.told(0, 2), 2);
        due("what it sends goes on", bus.told(0, 3), 1);
        bus.pass(1);
        carried(bus, "its claim again", claim(10), 1, 0, 0);
        due("has it", bus.told(0, 0), 2);
        due("the rival claims another", bus.told(1, 1), 128);
        bus.pass(1);
        due("no more in its table", bus.table(0, 10), -1);
        due("but the new one", bus.table(0, 128), 1);
        bus.pass(800);
        due("sent", bus.told(0, 3), 2);
    }

    /** A greater name claims the address so many milliseconds behind the claim of the one that keeps it. */
    private static void waitsAnewBehindARival() {
        sentence("Terms: 250 behind the millisecond in which its last claim was carried");
        for (int behind : new int[] {0, 1, 100, 247, 248, 249, 250}) {
            ClaimBus bus = new ClaimBus();
            bus.node(0, 5, 130, false, 1);
            bus.node(0, 9, 130, true, 1);
            bus.start(0);
            bus.pass(1);
            for (int i = 1; i <= behind; i++) {
                bus.pass(1);
            }
            bus.start(1);
            bus.pass(2);
            due("the rival goes elsewhere", bus.told(1, 1), 131);
            due("its claim again", bus.carried(0), claim(130));
            int from = behind < 248 ? behind + 3 : 1;
            due("when it was carried", bus.count(1), behind + 3);
            if (from + 249 > bus.count(1)) {
                bus.pass(from + 249 - bus.count(1));
                due(behind + " behind: 249 behind the last claim", bus.told(0, 0), 1);
                bus.pass(1);
            }
            due(behind + " behind: 250 behind the last claim", bus.told(0, 0), 2);
        }
    }

    private static void dropsAll() {
        sentence("Terms: all its frames that wait, and its transports, are dropped (that what it sends FAILED)");
        for (int free = 0; free < 2; free++) {
            ClaimBus bus = fixed(16, 16, 16);
            bus.node(-1, 9, 40, free == 1, 16);
            bus.node(0, 9, 40, false, 16);
            bus.start(3);
            bus.pass(300);
            bus.send(2, 255, TO_ALL_GROUP, 100, 1);
            bus.pass(1);
            bus.send(1, 40, TO_ONE_GROUP, 1785, 1);
            bus.pass(1);
            bus.send(3, 10, TO_ONE_GROUP, 1785, 1);
            bus.pass(20);
            due("gets and collects", bus.told(3, 5), 2);
            bus.request(3, 10);
            due("frames that wait", bus.told(3, 2) > 0 ? 1 : 0, 1);
            due("under way", bus.told(3, 3), 1);
            bus.start(4);
            bus.pass(1);
            due("the claim of the lesser name", bus.carried(3), 4);
            due("its claim alone waits", bus.told(3, 2), 1);
            due("FAILED", bus.told(3, 3), 3);
            due("gets and collects nothing", bus.told(3, 5), 0);
            due("state", bus.told(3, 0), free == 1 ? 1 : 3);
            bus.pass(1);
            carried(bus, "its claim", claim(free == 1 ? 128 : 254), 9, -1, 3);
            due("nothing waits", bus.told(3, 2), 0);
            bus.pass(3000);
            due("no message of all that", bus.told(3, 4), 0);
        }
    }

    /** Where a free node goes that loses an address, when the others have those of a list. */
    private static int goesTo(int address, int... others) {
        ClaimBus bus = new ClaimBus();
        bus.node(-1, -1, address, true, 1);
        bus.node(0, 0, address, false, 1);
        for (int i = 0; i < others.length; i++) {
            bus.node(1, i, others[i], false, 1);
        }
        bus.start(0);
        for (int i = 0; i < others.length; i++) {
            bus.start(2 + i);
        }
        bus.pass(300);
        bus.start(1);
        bus.pass(1);
        int to = bus.told(0, 1);
        due("claiming", bus.told(0, 0), 1);
        due("the claim that came is in its table", bus.table(0, address), 1);
        due("what it claims is not", bus.table(0, to), -1);
        bus.pass(1);
        due("its claim is to that address", bus.carried(0), claim(to));
        bus.pass(300);
        due("has it", bus.told(0, 0), 2);
        due("all have their own", bus.count(3), 2 + others.length);
        return to;
    }

    private static void behindAndRound() {
        sentence("Terms: the first one behind it, within 128 .. 247 and round (from 128 on, if it is not within these)");
        due("behind 0", goesTo(0), 128);
        due("behind 126", goesTo(126), 128);
        due("behind 127", goesTo(127), 128);
        due("behind 128", goesTo(128), 129);
        due("behind 129", goesTo(129), 130);
        due("behind 200", goesTo(200), 201);
        due("behind 246", goesTo(246), 247);
        due("behind 247", goesTo(247), 128);
    }

    private static void pastThoseOfTheTable() {
        sentence("Terms: that its table does not have");
        due("past one", goesTo(130, 131), 132);
        due("not past one before it", goesTo(130, 129, 128), 131);
        due("past two", goesTo(130, 132, 131), 133);
        due("the gap", goesTo(130, 131, 133), 132);
        due("past six", goesTo(130, 131, 132, 133, 134, 135, 136), 137);
        due("round past 247", goesTo(246, 247), 128);
        due("round past 247, 128, 129", goesTo(246, 247, 128, 129), 130);
        due("round past 128", goesTo(247, 128), 129);
        due("from 128 on past six", goesTo(5, 128, 129, 130, 131, 132, 133), 134);
        due("from 128 on, the gap", goesTo(127, 129), 128);
    }

    private static void tableOfTheLastClaims() {
        sentence("Terms: by the last claims that came");
        ClaimBus bus = new ClaimBus();
        bus.node(0, 5, 130, true, 1);
        bus.node(0, 7, 131, false, 1);
        bus.node(0, 3, 130, false, 1);
        bus.start(0);
        bus.start(1);
        bus.pass(300);
        bus.stop(1);
        due("one that stopped is there still", bus.table(0, 131), 1);
        bus.start(2);
        bus.pass(1);
        due("past it", bus.told(0, 1), 132);
        bus = new ClaimBus();
        bus.node(0, 5, 130, true, 1);
        bus.node(0, 7, 131, false, 1);
        bus.node(0, 3, 130, false, 1);
        bus.start(1);
        bus.pass(300);
        bus.start(0);
        bus.pass(300);
        due("what was claimed before it was on is not there", bus.table(0, 131), -1);
        bus.start(2);
        bus.pass(1);
        due("so it goes there", bus.told(0, 1), 131);
        bus.pass(2);
        due("the greater name has none", bus.told(1, 0), 3);
        bus.pass(300);
        due("has it", bus.told(0, 0), 2);
        namesThatMove();
    }

    private static void namesThatMove() {
        sentence("Terms: a name one address, an address one name; a name with 254 none");
        ClaimBus bus = new ClaimBus();
        bus.node(0, 0, 7, false, 1);
        bus.node(0, 9, 140, true, 1);
        bus.node(0, 8, 140, true, 1);
        bus.node(0, 7, 141, false, 1);
        bus.node(0, 6, 7, false, 1);
        bus.start(0);
        bus.start(1);
        bus.pass(300);
        due("140", bus.table(0, 140), 1);
        bus.start(2);
        bus.pass(1);
        due("an address one name", bus.table(0, 140), 2);
        bus.pass(1);
        due("its new one", bus.table(0, 141), 1);
        bus.start(3);
        bus.pass(1);
        due("an address one name", bus.table(0, 141), 3);
        bus.pass(1);
        due("its new one", bus.table(0, 142), 1);
        due("no other name of 140", bus.table(0, 140), 2);
        bus.start(4);
        bus.pass(1);
        due("a rival of its own address", bus.table(0, 7), 4);
        bus.pass(2);
        due("a name with 254 none", bus.table(0, 7), -1);
        due("254 is none", bus.table(0, 254), -1);
        due("the others stay", bus.table(0, 140) + bus.table(0, 141) + bus.table(0, 142), 6);
    }

    private static void noneLeft() {
        sentence("Terms: or it is not free: it has NONE, and puts a claim with 254");
        ClaimBus bus = fixed(1);
        bus.node(0, 2, 10, false, 1);
        bus.node(0, 3, 10, false, 1);
        bus.start(1);
        bus.start(2);
        bus.pass(2);
        due("its claim came first", bus.told(1, 0), 3);
        bus.pass(10);
        due("none", bus.told(1, 0) + bus.told(2, 0), 6);
        due("254", bus.told(1, 1) + bus.told(2, 1), 508);
        due("claims of 254 are no claims of an own address", bus.told(1, 2) + bus.told(2, 2), 0);
        int carried = bus.count(2);
        bus.stop(0);
        bus.pass(5000);
        due("none it stays", bus.told(1, 0), 3);
        due("and puts no more", bus.count(2), carried);
    }

    private static void answersToRequests() {
        sentence("Terms: comes one to a node, or to all, it puts a claim (state 3 one with 254)");
        ClaimBus bus = fixed(1);
        bus.node(0, 2, 10, false, 1);
        bus.node(0, 3, 30, false, 1);
        bus.node(0, 4, 40, false, 1);
        bus.node(0, 5, 50, false, 1);
        bus.start(1);
        bus.start(4);
        bus.pass(300);
        bus.start(2);
        bus.pass(5);
        bus.request(0, 255);
        bus.pass(1);
        int[] puts = {0, 1, 1, 0, 1};
        for (int i = 0; i < 5; i++) {
            due("claims of node " + i, bus.told(i, 2), puts[i]);
        }
        bus.pass(1);
        carried(bus, "claiming", claim(30), 3, 0, 2);
        bus.pass(1);
        carried(bus, "has one", claim(50), 5, 0, 4);
        bus.pass(1);
        carried(bus, "has none", claim(254), 2, 0, 1);
        due("none has it still", bus.told(1, 0), 3);
        due("has it still", bus.told(4, 0), 2);
        due("claims still", bus.told(2, 0), 1);
    }

    private static void requestsToOne() {
        ClaimBus bus = fixed(1, 1, 1);
        bus.node(0, 4, 40, false, 1);
        for (int to : new int[] {0, 9, 11, 19, 21, 40, 253}) {
            bus.request(0, to);
            bus.pass(1);
            due("to " + to + ", which none has", bus.told(0, 2) + bus.told(1, 2) + bus.told(2, 2) + bus.told(3, 2), 0);
        }
        bus.request(0, 20);
        bus.pass(1);
        due("to 20", bus.told(1, 2), 1);
        due("to 20", bus.told(2, 2), 0);
        bus.pass(1);
        due("its claim", bus.carried(0), claim(20));
        bus.lose(1, 1);
        bus.request(0, 20);
        bus.pass(2);
        due("a request that is lost", bus.carried(0), identifier(234, 20, 10));
    }

    private static void oneClaimWaits() {
        sentence("Terms: a node that is to put one puts none while one of its own waits");
        ClaimBus bus = new ClaimBus();
        bus.node(0, 255, 130, false, 1);
        bus.node(0, 272, 130, true, 1);
        bus.node(0, 517, 130, true, 1);
        bus.start(0);
        bus.pass(300);
        bus.start(1);
        bus.start(2);
        bus.pass(1);
        due("a rival's claim (its first byte is less), so its claim waits", bus.told(0, 2), 1);
        bus.pass(1);
        due("the other rival's claim", bus.carried(0), claim(130));
        due("one still", bus.told(0, 2), 1);
        bus.pass(1);
        due("which is carried", bus.carried(3), 0);
        due("none is left", bus.told(0, 2), 0);
    }

    private static void heardByThoseThatAreOn() {
        sentence("Terms: it comes to all other nodes that are not off");
        ClaimBus bus = fixed(1, 1);
        bus.node(0, 3, 10, false, 1);
        bus.node(0, 4, 40, false, 1);
        bus.node(0, 5, 50, false, 1);
        bus.start(2);
        bus.pass(5);
        bus.start(3);
        bus.pass(5);
        bus.request(1, 10);
        bus.pass(2);
        int[] hears = {-1, 0, 0, 0, -1};
        for (int i = 0; i < 5; i++) {
            due("the claim of 10 to node " + i, bus.table(i, 10), hears[i]);
        }
        due("that of 40 to one that has none", bus.table(2, 40), 3);
        bus.start(4);
        bus.pass(5);
        due("none that was carried before it was on", bus.table(4, 10), -1);
        due("not its own", bus.table(4, 50), -1);
        due("its own to one that is claiming", bus.table(3, 50), 4);
    }
}
