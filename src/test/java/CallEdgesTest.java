/** Each sentence of the promises that names an edge of a call: the last that is taken, the first that is refused. */
public final class CallEdgesTest extends Checks {
    private static final int[] FORMATS_TAKEN = {234, 235, 236, 238};
    private static final int[] FORMATS_BESIDE = {0, 233, 237, 239};

    private CallEdgesTest() {
    }

    public static void main(String[] args) {
        emptyObject();
        wantedAddresses();
        windows();
        namesThere();
        eightNodes();
        startsOfEachState();
        stopsOfEachState();
        stopsOfWhatWaits();
        stopsOfWhatWasSent();
        stopsGiveTheWantedAddress();
        requestsByEachState();
        requestsToAddresses();
        sendsByEachState();
        sendsOfSizes();
        sendsOfGroups();
        sendsOfFormats();
        sendsToAddresses();
        sendsWhileUnderWay();
        bytesThatAreSent();
        sendsToTheOwnAddress();
        troubleNumbers();
        tenTroubles();
        troublesOfEachState();
        tellsByEachState();
        tellsOfMany();
        tellsEachBit();
        losesOfFrames();
        losesInPlace();
        losesOfThoseThatCome();
        passesOfTime();
        passesInParts();
        toldNumbers();
        toldAddresses();
        toldFrames();
        tableAddresses();
        messageNumbers();
        twentyMessages();
        keptNumbers();
        keptSources();
        carriedNumbers();
        soundOrDisturbed();
        countNumbers();
        calls512();
        end("CallEdgesTest");
    }

    /** Nodes 0 (HAS 10), 1 (CLAIMING 20), 2 (NONE: wants 10, too), 3 (off: wants 40). */
    private static ClaimBus eachState() {
        ClaimBus bus = new ClaimBus();
        bus.node(0, 1, 10, false, 4);
        bus.node(0, 2, 20, false, 4);
        bus.node(0, 3, 10, false, 4);
        bus.node(0, 4, 40, false, 4);
        bus.start(0);
        bus.start(2);
        bus.pass(300);
        bus.start(1);
        bus.pass(10);
        return bus;
    }

    private static void emptyObject() {
        sentence("1: no nodes, time 0");
        ClaimBus bus = new ClaimBus();
        for (int what = 0; what < 4; what++) {
            due("count", bus.count(what), 0);
            due("carried", bus.carried(what), what == 3 ? -1 : 0);
        }
        for (int node : new int[] {LEAST, -1, 0, 7, 8, MOST}) {
            no("start", bus.start(node));
            no("stop", bus.stop(node));
            no("request", bus.request(node, 255));
            no("send", bus.send(node, 255, TO_ALL_GROUP, 1, 1));
            due("trouble", bus.trouble(node, 1, 1, 1), -1);
            no("tell", bus.tell(node));
            no("lose", bus.lose(node, 1));
            due("told", bus.told(node, 0), -1);
            due("table", bus.table(node, 0), -1);
            due("message", bus.message(node, 0, 0), -1);
            due("kept", bus.kept(node, 0, -1, 0), -1);
        }
        yes("sound", bus.sound());
        due("time goes by", bus.pass(5000), 5000);
        due("no frame", bus.count(2), 0);
        due("another object is new", new ClaimBus().count(1), 0);
    }

    private static void wantedAddresses() {
        sentence("2: the address that it wants (0 .. 247)");
        ClaimBus bus = new ClaimBus();
        for (int address : new int[] {LEAST, -1, 248, 249, 253, 254, 255, 256, MOST}) {
            due("" + address, bus.node(1, 1, address, true, 1), -1);
        }
        due("no nodes", bus.count(0), 0);
        due("0", bus.node(1, 1, 0, false, 1), 0);
        due("247", bus.node(1, 2, 247, true, 1), 1);
        due("an address that is wanted already", bus.node(1, 3, 247, true, 1), 2);
        due("address of 0", bus.told(0, 1), 0);
        due("address of 1", bus.told(1, 1), 247);
        bus.start(0);
        bus.start(1);
        bus.pass(2);
        carried(bus, "claim", claim(247), 2, 1, 1);
        due("0 in the table", bus.table(1, 0), 0);
        due("247 in the table", bus.table(0, 247), 1);
        bus.pass(300);
        due("both have them", bus.count(3), 2);
    }

    private static void windows() {
        sentence("2: WINDOW (1 .. 16)");
        ClaimBus bus = new ClaimBus();
        for (int window : new int[] {LEAST, -1, 0, 17, 18, 256, MOST}) {
            due("" + window, bus.node(1, 1, 1, true, window), -1);
        }
        due("1", bus.node(1, 1, 10, false, 1), 0);
        due("16", bus.node(1, 2, 20, false, 16), 1);
        bus.start(0);
        bus.start(1);
        bus.pass(300);
        bus.send(0, 20, TO_ONE_GROUP, 200, 1);
        bus.send(1, 10, TO_ONE_GROUP, 200, 1);
        bus.pass(1);
        due("window of 1", bus.carried(2), four(16, 0, 239, 0));
        bus.pass(1);
        due("window of 0", bus.carried(2), four(1, 0, 239, 0));
    }

    private static void namesThere() {
        sentence("2: its name is there");
        ClaimBus bus = new ClaimBus();
        int highest = 1 << 31;
        due("the first", bus.node(5, 6, 1, false, 1), 0);
        due("both halves like", bus.node(5, 6, 2, true, 2), -1);
        due("another low half", bus.node(5, 7, 1, false, 1), 1);
        due("another high half", bus.node(6, 6, 1, false, 1), 2);
        due("the halves changed over", bus.node(6, 5, 1, false, 1), 3);
        due("another highest bit, low", bus.node(5, 6 ^ highest, 1, false, 1), 4);
        due("another highest bit, high", bus.node(5 ^ highest, 6, 1, false, 1), 5);
        due("the second's", bus.node(5, 7, 3, true, 3), -1);
        due("the last one's", bus.node(5 ^ highest, 6, 3, true, 3), -1);
        bus.start(0);
        bus.pass(300);
        due("of one that is on", bus.node(5, 6, 2, true, 2), -1);
        bus.stop(0);
        due("of one that was on", bus.node(5, 6, 2, true, 2), -1);
        due("six nodes", bus.count(0), 6);
        due("0 and 0", bus.node(0, 0, 1, false, 1), 6);
        due("all bits", bus.node(-1, -1, 1, false, 1), 7);
    }

    private static void eightNodes() {
        sentence("2: there are 8");
        ClaimBus bus = new ClaimBus();
        for (int i = 0; i < 8; i++) {
            due("a name that is refused for its address, then taken", bus.node(7, i, 248, false, 1), -1);
            due("which one", bus.node(7, i, 10 * i, false, 1), i);
            due("off", bus.told(i, 0), 0);
            due("no further one yet", bus.told(i + 1, 0), -1);
        }
        due("the ninth", bus.node(7, 8, 200, false, 1), -1);
        due("the tenth", bus.node(8, 8, 201, true, 16), -1);
        due("eight", bus.count(0), 8);
        due("no ninth", bus.told(8, 0), -1);
        no("no ninth", bus.start(8));
        yes("the last one", bus.start(7));
        bus.pass(1);
        carried(bus, "the last one's claim", claim(70), 7, 7, 7);
    }

    private static void startsOfEachState() {
        sentence("3: a node that is off begins to claim; none such; it is on");
        ClaimBus bus = eachState();
        for (int node : new int[] {LEAST, -1, 4, 8, MOST}) {
            no("none such", bus.start(node));
        }
        no("it has its address", bus.start(0));
        no("it is claiming", bus.start(1));
        no("it has none", bus.start(2));
        for (int i = 0; i < 3; i++) {
            due("its state stays", bus.told(i, 0), new int[] {2, 1, 3}[i]);
            due("its address stays", bus.told(i, 1), new int[] {10, 20, 254}[i]);
            due("it puts nothing", bus.told(i, 2), 0);
        }
        yes("it is off", bus.start(3));
        due("claiming", bus.told(3, 0), 1);
        due("one claim", bus.told(3, 2), 1);
        no("on now", bus.start(3));
        due("still one claim", bus.told(3, 2), 1);
        bus.pass(240);
        due("the refused start did not put the wait of 250 off", bus.told(1, 0), 1);
        bus.pass(1);
        due("the refused start did not put the wait of 250 off", bus.told(1, 0), 2);
        for (int i = 0; i < 3; i++) {
            yes("stop", bus.stop(i));
            yes("off again", bus.start(i));
            due("claiming", bus.told(i, 0), 1);
        }
    }

    private static void stopsOfEachState() {
        sentence("4: a node is off; none such; it is off");
        ClaimBus bus = eachState();
        for (int node : new int[] {LEAST, -1, 4, 8, MOST}) {
            no("none such", bus.stop(node));
        }
        no("it was never on", bus.stop(3));
        for (int i = 0; i < 3; i++) {
            yes("it is on", bus.stop(i));
            due("off", bus.told(i, 0), 0);
            no("it is off", bus.stop(i));
            due("still off", bus.told(i, 0), 0);
        }
        due("none has an address", bus.count(3), 0);
        int carried = bus.count(2);
        bus.pass(5000);
        due("no timer of theirs", bus.count(2), carried);
        due("still off", bus.told(1, 0), 0);
    }

    private static void stopsOfWhatWaits() {
        sentence("4: all that waits, its transports, table, and what it kept of troubles, are gone");
        ClaimBus bus = fixed(4, 4);
        bus.trouble(1, 1, 2, 3);
        bus.tell(1);
        bus.pass(1);
        due("kept", bus.kept(0, 20, -1, 0), 1);
        bus.send(1, 10, TO_ONE_GROUP, 50, 1);
        bus.pass(1);
        due("gets", bus.told(0, 5), 1);
        bus.send(0, 20, 0, 1, 1);
        bus.send(0, 20, 0, 8, 1);
        bus.request(0, 255);
        due("a 17, two messages, a request", bus.told(0, 2), 4);
        due("its table", bus.table(0, 20), 1);
        bus.stop(0);
        due("nothing waits", bus.told(0, 2), 0);
        due("gets nothing", bus.told(0, 5), 0);
        due("messages that came stay", bus.told(0, 4), 1);
        due("messages that came stay", bus.message(0, 0, 1), TROUBLE_GROUP);
        due("no table", bus.table(0, 20), -1);
        due("kept nothing", bus.kept(0, 20, -1, 0), -1);
        due("kept nothing", bus.kept(0, 20, 0, 0), -1);
        int carried = bus.count(2);
        bus.pass(500);
        due("none of them is carried", bus.count(2), carried);
        bus.start(0);
        bus.pass(251);
        due("its claim alone", bus.count(2), carried + 1);
        due("has it", bus.told(0, 0), 2);
        due("still no table", bus.table(0, 20), -1);
        due("still kept nothing", bus.kept(0, 20, -1, 0), -1);
        bus.trouble(0, 5, 5, 5);
        bus.tell(0);
        bus.pass(1);
        due("its own troubles stay", bus.kept(1, 10, -1, 0), 1);
        stopOfAClaim();
    }

    private static void stopOfAClaim() {
        ClaimBus bus = new ClaimBus();
        bus.node(0, 1, 10, false, 1);
        bus.start(0);
        bus.stop(0);
        due("its claim is gone", bus.told(0, 2), 0);
        bus.pass(300);
        due("and is not carried", bus.count(2), 0);
        bus.start(0);
        bus.start(0);
        bus.pass(300);
        due("one claim", bus.count(2), 1);
        bus.stop(0);
        bus.pass(10);
        bus.start(0);
        bus.pass(1);
        due("no wait left from before", bus.told(0, 0), 1);
    }

    private static void stopsOfWhatWasSent() {
        sentence("4: what it sent FAILED");
        ClaimBus bus = fixed(4, 4, 4);
        bus.send(0, 255, TO_ALL_GROUP, 100, 1);
        bus.pass(1);
        bus.send(1, 30, TO_ONE_GROUP, 100, 1);
        bus.pass(1);
        due("collects and gets", bus.told(2, 5), 2);
        for (int i = 0; i < 3; i++) {
            due("under way", bus.told(i, 3), i < 2 ? 1 : 0);
            bus.stop(i);
            due("FAILED, if it sent", bus.told(i, 3), i < 2 ? 3 : 0);
            due("gets nothing", bus.told(i, 5), 0);
        }
        bus.start(0);
        due("FAILED still", bus.told(0, 3), 3);
        bus.pass(300);
        yes("it may send", bus.send(0, 255, TO_ALL_GROUP, 9, 1));
    }

    private static void stopsGiveTheWantedAddress() {
        sentence("4: its address is the one that it wanted");
        ClaimBus bus = new ClaimBus();
        bus.node(0, 1, 247, false, 1);
        bus.node(0, 2, 247, true, 1);
        bus.node(0, 3, 247, false, 1);
        for (int i = 0; i < 3; i++) {
            bus.start(i);
        }
        bus.pass(300);
        due("its address", bus.told(0, 1), 247);
        due("another one", bus.told(1, 1), 128);
        due("none", bus.told(2, 1), 254);
        for (int i = 0; i < 3; i++) {
            bus.stop(i);
            due("what it wanted", bus.told(i, 1), 247);
        }
        bus.start(2);
        bus.pass(251);
        due("now it has it", bus.told(2, 0), 2);
        due("now it has it", bus.told(2, 1), 247);
    }

    private static void requestsByEachState() {
        sentence("5: a node that HAS an address puts a request; none such");
        ClaimBus bus = eachState();
        for (int node : new int[] {LEAST, -1, 1, 2, 3, 4, 8, MOST}) {
            no("" + node, bus.request(node, 255));
        }
        for (int i = 0; i < 4; i++) {
            due("nothing was put", bus.told(i, 2), 0);
        }
        yes("it HAS one", bus.request(0, 255));
        due("a frame", bus.told(0, 2), 1);
    }

    private static void requestsToAddresses() {
        sentence("5: another address than 0 .. 253, 255");
        ClaimBus bus = fixed(1);
        for (int to : new int[] {LEAST, -256, -2, -1, 254, 256, 257, MOST}) {
            no("" + to, bus.request(0, to));
        }
        due("nothing was put", bus.told(0, 2), 0);
        int puts = 0;
        for (int to : new int[] {0, 1, 247, 248, 253, 255}) {
            yes("" + to, bus.request(0, to));
            puts++;
            due("a frame", bus.told(0, 2), puts);
        }
        for (int to : new int[] {0, 1, 247, 248, 253, 255}) {
            bus.pass(1);
            carried(bus, "to " + to, identifier(234, to, 10), four(0, 238, 0, 255), -1, 0);
        }
        due("it does not answer itself", bus.told(0, 2), 0);
    }

    private static void sendsByEachState() {
        sentence("6: none such; it has no address");
        ClaimBus bus = eachState();
        for (int node : new int[] {LEAST, -1, 1, 2, 3, 4, 8, MOST}) {
            no("short, " + node, bus.send(node, 255, TO_ALL_GROUP, 1, 1));
            no("longer, " + node, bus.send(node, 255, TO_ALL_GROUP, 9, 1));
            no("to one, " + node, bus.send(node, 40, TO_ONE_GROUP, 9, 1));
        }
        for (int i = 0; i < 4; i++) {
            due("nothing was put", bus.told(i, 2), 0);
            due("nothing is sent", bus.told(i, 3), 0);
        }
        yes("it HAS one", bus.send(0, 255, TO_ALL_GROUP, 1, 1));
        due("a frame", bus.told(0, 2), 1);
        due("DONE", bus.told(0, 3), 2);
    }

    private static void sendsOfSizes() {
        sentence("6: size is not 1 .. 1,785");
        for (int to : new int[] {20, 255}) {
            for (int size : new int[] {LEAST, -1785, -1, 0, 1786, 1787, 65536 + 8, MOST}) {
                ClaimBus bus = fixed(1, 1);
                no("to " + to + ", " + size, bus.send(0, to, TO_ONE_GROUP, size, 1));
                due("nothing was put", bus.told(0, 2), 0);
                due("nothing is sent", bus.told(0, 3), 0);
            }
            for (int size : new int[] {1, 7, 8, 9, 10, 255, 256, 1784, 1785}) {
                ClaimBus bus = fixed(1, 1);
                yes("to " + to + ", " + size, bus.send(0, to, TO_ONE_GROUP, size, 1));
                due("one frame", bus.told(0, 2), 1);
                due("DONE up to eight bytes", bus.told(0, 3), size <= 8 ? 2 : 1);
                bus.pass(1);
                if (size > 8) {
                    due("its size", bus.carried(1) >>> 8 & 65535, size);
                    due("its packets", bus.carried(1) >>> 24, (size + 6) / 7);
                }
                pass(bus, 13000);
                due("came", bus.told(1, 4), 1);
                due("size that came", bus.message(1, 0, 2), Math.max(8, size));
            }
        }
    }

    private static void sendsOfGroups() {
        sentence("6: group not 0 .. 262,143 (the lowest 8 bits 0, if its format is below 240)");
        ClaimBus bus = fixed(1, 1);
        for (int group : new int[] {LEAST, -262144, -65536, -256, -1, 262144, 262145, 262144 + 61184, MOST}) {
            no("" + group, bus.send(0, 255, group, 1, 1));
        }
        for (int page = 0; page < 4; page++) {
            for (int low : new int[] {1, 2, 127, 128, 254, 255}) {
                no("format 0, " + low, bus.send(0, 255, page << 16 | low, 1, 1));
                no("format 239, " + low, bus.send(0, 255, page << 16 | 239 << 8 | low, 1, 1));
                no("format 239, " + low, bus.send(0, 20, page << 16 | 239 << 8 | low, 9, 1));
                yes("format 240, " + low, bus.send(0, 255, page << 16 | 240 << 8 | low, 1, 1));
            }
            yes("format 240, 0", bus.send(0, 255, page << 16 | 240 << 8, 1, 1));
            yes("format 239, 0", bus.send(0, 255, page << 16 | 239 << 8, 1, 1));
            yes("format 255, 255", bus.send(0, 255, page << 16 | 65535, 1, 1));
        }
        due("a frame for each that was taken", bus.told(0, 2), 4 * 9);
        sentGroupsCome();
    }

    private static void sentGroupsCome() {
        int[] groups = {0, 256, 239 << 8, 240 << 8, 240 << 8 | 1, 65535, 65536, 262143 - 255, 262143};
        for (int group : groups) {
            ClaimBus bus = fixed(1, 1);
            yes("short", bus.send(0, 255, group, 1, 1));
            bus.pass(1);
            boolean isBelow = (group >> 8 & 255) < 240;
            due("its identifier", bus.carried(0), 7 << 26 | group << 8 | (isBelow ? 255 << 8 : 0) | 10);
            yes("longer", bus.send(0, 255, group, 9, 1));
            bus.pass(1);
            due("its group in bytes 5 .. 7", bus.carried(2), 255 | group << 8);
            bus.pass(100);
            due("came", bus.message(1, 0, 1), group);
            due("came", bus.message(1, 1, 1), group);
        }
    }

    private static void sendsOfFormats() {
        sentence("6: one of the formats 234 .. 236, 238 with page 0");
        for (int size : new int[] {1, 9}) {
            for (int page = 0; page < 4; page++) {
                for (int format : FORMATS_TAKEN) {
                    ClaimBus bus = fixed(1, 1);
                    boolean toOne = bus.send(0, 20, page << 16 | format << 8, size, 1);
                    due("to one, format " + format + ", page " + page, toOne ? 1 : 0, page == 0 ? 0 : 1);
                    bus = fixed(1, 1);
                    boolean toAll = bus.send(0, 255, page << 16 | format << 8, size, 1);
                    due("to all, format " + format + ", page " + page, toAll ? 1 : 0, page == 0 ? 0 : 1);
                    bus.pass(200);
                    due("a message", bus.told(1, 4), page == 0 ? 0 : 1);
                    due("no claim, no answer", bus.count(2), 2 + (page == 0 ? 0 : size == 1 ? 1 : 3));
                }
                for (int format : FORMATS_BESIDE) {
                    yes("format " + format, fixed(1).send(0, 20, page << 16 | format << 8, size, 1));
                    yes("format " + format, fixed(1).send(0, 255, page << 16 | format << 8, size, 1));
                }
            }
        }
    }

    private static void sendsToAddresses() {
        sentence("6: to is not 0 .. 253, 255 (format above 239: 255 alone)");
        for (int size : new int[] {1, 9}) {
            for (int to : new int[] {LEAST, -1, 254, 256, 511, MOST}) {
                ClaimBus bus = fixed(1);
                no("format 239 to " + to, bus.send(0, to, TO_ONE_GROUP, size, 1));
                no("format 240 to " + to, bus.send(0, to, 240 << 8, size, 1));
                due("nothing was put", bus.told(0, 2), 0);
            }
            for (int to : new int[] {0, 1, 128, 247, 248, 253, 255}) {
                ClaimBus bus = fixed(1);
                due("format 240 to " + to, bus.send(0, to, 240 << 8, size, 1) ? 1 : 0, to == 255 ? 1 : 0);
                bus = fixed(1);
                due("format 255 to " + to, bus.send(0, to, 255 << 8, size, 1) ? 1 : 0, to == 255 ? 1 : 0);
                bus = fixed(1);
                yes("format 239 to " + to, bus.send(0, to, TO_ONE_GROUP, size, 1));
                bus.pass(1);
                due("to whom", bus.carried(0), identifier(size == 1 ? 239 : 236, to, 10));
            }
        }
    }

    private static void sendsWhileUnderWay() {
        sentence("6: it has not ended sending a longer one");
        ClaimBus bus = fixed(4, 4);
        for (int i = 0; i < 3; i++) {
            yes("up to eight bytes have ended at once", bus.send(0, 20, TO_ONE_GROUP, 8, i));
        }
        yes("a longer one behind frames that wait", bus.send(0, 255, TO_ALL_GROUP, 9, 1));
        bus.pass(99);
        no("short, to all is under way", bus.send(0, 20, TO_ONE_GROUP, 1, 1));
        no("longer, to all is under way", bus.send(0, 20, TO_ONE_GROUP, 9, 1));
        bus.pass(1);
        yes("its last packet was put", bus.send(0, 20, TO_ONE_GROUP, 9, 1));
        bus.pass(4);
        no("short, to one is under way", bus.send(0, 20, TO_ONE_GROUP, 1, 1));
        no("longer, to one is under way", bus.send(0, 255, TO_ALL_GROUP, 9, 1));
        bus.pass(1);
        due("19", bus.carried(1) & 255, 19);
        yes("DONE", bus.send(0, 200, TO_ONE_GROUP, 9, 1));
        bus.pass(1249);
        no("to none", bus.send(0, 20, TO_ONE_GROUP, 1, 1));
        bus.pass(1);
        yes("FAILED", bus.send(0, 20, TO_ONE_GROUP, 1, 1));
        due("the other may send all the while", bus.told(1, 3), 0);
    }

    private static void bytesThatAreSent() {
        sentence("6: byte i is the lowest eight bits of seed + i i + i / 256");
        for (int seed : new int[] {0, 1, 255, 256, -1, -256, 128, LEAST, MOST}) {
            ClaimBus bus = fixed(16, 16);
            bus.send(0, 20, TO_ONE_GROUP, 8, seed);
            bus.pass(1);
            due("the first four", bus.carried(1), bytes(seed, 0));
            due("the others", bus.carried(2), bytes(seed, 4));
            bus.send(0, 20, TO_ONE_GROUP, 600, seed);
            bus.pass(2);
            for (int packet = 1; packet <= 86; packet++) {
                bus.pass(packet > 1 && packet % 16 == 1 ? 2 : 1);
                boolean isNearStep = packet == 1 || Math.abs(packet - 37) < 2 || Math.abs(packet - 74) < 2;
                if (isNearStep) {
                    due("packet and its first three bytes", bus.carried(1), packet | bytes(seed, 7 * packet - 7) << 8);
                    due("its other four bytes", bus.carried(2), bytes(seed, 7 * packet - 4));
                }
            }
            due("sum", bus.message(1, 1, 3), sum(600, seed));
        }
    }

    private static int bytes(int seed, int from) {
        int four = 0;
        for (int i = from + 3; i >= from; i--) {
            four = four << 8 | seed + i * i + i / 256 & 255;
        }
        return four;
    }

    private static void sendsToTheOwnAddress() {
        sentence("6: to its own address: the node itself does not get it");
        ClaimBus bus = fixed(4, 4);
        yes("short", bus.send(0, 10, TO_ONE_GROUP, 8, 1));
        bus.pass(1);
        carried(bus, "it is carried", identifier(239, 10, 10), four(1, 2, 5, 10), four(17, 26, 37, 50), 0);
        yes("longer", bus.send(0, 10, TO_ONE_GROUP, 9, 1));
        bus.pass(1);
        carried(bus, "it is carried", identifier(236, 10, 10), four(16, 9, 0, 2), four(4, 0, 239, 0), 0);
        due("gets nothing", bus.told(0, 5), 0);
        bus.pass(1300);
        due("none answers", bus.told(0, 3), 3);
        due("no message", bus.told(0, 4) + bus.told(1, 4), 0);
    }

    private static void troubleNumbers() {
        sentence("7: SPN (19 bits), FMI (5), OC (7); none such");
        ClaimBus bus = new ClaimBus();
        bus.node(0, 1, 10, false, 1);
        for (int node : new int[] {LEAST, -1, 1, 8, MOST}) {
            due("node " + node, bus.trouble(node, 1, 1, 1), -1);
        }
        for (int spn : new int[] {LEAST, -1, 524288, 524289, 1048575, MOST}) {
            due("SPN " + spn, bus.trouble(0, spn, 1, 1), -1);
        }
        for (int fmi : new int[] {LEAST, -1, 32, 33, 63, MOST}) {
            due("FMI " + fmi, bus.trouble(0, 1, fmi, 1), -1);
        }
        for (int oc : new int[] {LEAST, -1, 128, 129, 255, MOST}) {
            due("OC " + oc, bus.trouble(0, 1, 1, oc), -1);
        }
        int[][] taken = {{0, 0, 0}, {524287, 0, 0}, {0, 31, 0}, {0, 0, 127}, {524287, 31, 127}};
        for (int i = 0; i < taken.length; i++) {
            due("how many", bus.trouble(0, taken[i][0], taken[i][1], taken[i][2]), i + 1);
        }
    }

    private static void tenTroubles() {
        sentence("7: it has ten");
        ClaimBus bus = fixed(1, 1);
        for (int i = 1; i <= 10; i++) {
            due("how many", bus.trouble(0, i, 1, 1), i);
            due("refused between", bus.trouble(0, i, 32, 1), -1);
        }
        due("the eleventh", bus.trouble(0, 11, 1, 1), -1);
        due("the twelfth", bus.trouble(0, 12, 1, 1), -1);
        due("another node's first", bus.trouble(1, 1, 1, 1), 1);
        bus.tell(0);
        bus.pass(400);
        due("ten are told", bus.kept(1, 10, -1, 0), 10);
        for (int k = 0; k < 10; k++) {
            due("the refused ones are none of them", bus.kept(1, 10, k, 0), k + 1);
        }
        bus.stop(0);
        due("ten still, off", bus.trouble(0, 11, 1, 1), -1);
        due("42 bytes", bus.message(1, 0, 2), 42);
    }

    private static void troublesOfEachState() {
        sentence("7: one more trouble of a node, whatever its state");
        ClaimBus bus = eachState();
        for (int i = 0; i < 4; i++) {
            due("the first", bus.trouble(i, 1, 1, 1), 1);
            due("the second", bus.trouble(i, 1, 1, 1), 2);
            due("nothing is put", bus.told(i, 2), 0);
        }
    }

    private static void tellsByEachState() {
        sentence("8: none such; as for send()");
        ClaimBus bus = eachState();
        for (int node : new int[] {LEAST, -1, 1, 2, 3, 4, 8, MOST}) {
            no("without any, " + node, bus.tell(node));
        }
        for (int i = 0; i < 4; i++) {
            bus.trouble(i, 1, 1, 1);
            due("with one", bus.tell(i) ? 1 : 0, i == 0 ? 1 : 0);
            due("a frame", bus.told(i, 2), i == 0 ? 1 : 0);
            due("DONE", bus.told(i, 3), i == 0 ? 2 : 0);
        }
        bus.send(0, 40, TO_ONE_GROUP, 9, 1);
        no("it has not ended sending a longer one", bus.tell(0));
        due("nothing more is put", bus.told(0, 2), 2);
        bus.pass(1249);
        no("it has not ended", bus.tell(0));
        bus.pass(1);
        yes("it has", bus.tell(0));
    }

    private static void tellsOfMany() {
        sentence("8: 64 (0 without any), 255, and four bytes each");
        for (int many = 0; many <= 10; many++) {
            ClaimBus bus = fixed(1, 1);
            for (int i = 0; i < many; i++) {
                bus.trouble(0, 524287 - i, i, 127 - i);
            }
            yes("tell", bus.tell(0));
            due("up to one it is one frame", bus.told(0, 3), many < 2 ? 2 : 1);
            bus.pass(1);
            if (many < 2) {
                due("the first bytes", bus.carried(1) & 65535, many == 0 ? 65280 : 64 | 65280);
            } else {
                int size = 2 + 4 * many;
                carried(bus, "32", identifier(236, 255, 10), four(32, size, 0, (size + 6) / 7), four(255, 202, 254, 0), 0);
                bus.pass(49);
                due("the first bytes", bus.carried(1) & 0xFFFFFF, 1 | 64 << 8 | 255 << 16);
            }
            bus.pass(500);
            due("how many", bus.kept(1, 10, -1, 0), many);
            for (int k = 0; k < many; k++) {
                due("SPN", bus.kept(1, 10, k, 0), 524287 - k);
                due("FMI", bus.kept(1, 10, k, 1), k);
                due("OC", bus.kept(1, 10, k, 2), 127 - k);
            }
            due("no more", bus.kept(1, 10, many, 0), -1);
        }
    }

    private static void tellsEachBit() {
        sentence("8: the lowest 8 of SPN, the next 8, the highest 3 and FMI (SPN's higher), OC");
        for (int bit = 0; bit < 31; bit++) {
            int spn = bit < 19 ? 1 << bit : 0;
            int fmi = bit >= 19 && bit < 24 ? 1 << bit - 19 : 0;
            int oc = bit >= 24 ? 1 << bit - 24 : 0;
            ClaimBus bus = fixed(1, 1);
            due("taken", bus.trouble(0, spn, fmi, oc), 1);
            bus.tell(0);
            bus.pass(1);
            int third = spn >= 65536 ? spn >> 16 << 5 : fmi;
            carried(bus, "bit " + bit, identifier(254, 202, 10), four(64, 255, spn & 255, spn >> 8 & 255),
                four(third, oc, 255, 255), 0);
            due("SPN", bus.kept(1, 10, 0, 0), spn);
            due("FMI", bus.kept(1, 10, 0, 1), fmi);
            due("OC", bus.kept(1, 10, 0, 2), oc);
        }
    }

    private static void losesOfFrames() {
        sentence("9: so many frames (0 .. 50); none such");
        ClaimBus bus = fixed(1, 1);
        for (int node : new int[] {LEAST, -1, 2, 8, MOST}) {
            no("none such", bus.lose(node, 1));
        }
        yes("50", bus.lose(1, 50));
        for (int frames : new int[] {LEAST, -1, 51, 52, MOST}) {
            no("" + frames, bus.lose(1, frames));
        }
        for (int i = 0; i < 52; i++) {
            bus.send(0, 20, TO_ONE_GROUP, 1, i);
        }
        bus.pass(49);
        due("49 lost", bus.told(1, 6), 49);
        bus.pass(1);
        due("50 lost", bus.told(1, 6), 50);
        due("but carried", bus.count(2), 2 + 50);
        due("none came", bus.told(1, 4), 0);
        bus.pass(2);
        due("no more lost", bus.told(1, 6), 50);
        due("two came", bus.told(1, 4), 2);
        due("the first that came", bus.message(1, 0, 3), 50 + 255 * 35);
    }

    private static void losesInPlace() {
        sentence("9: from the next one on (in place of what was told before)");
        int[][] tolds = {{5, 0, 0}, {0, 5, 5}, {50, 1, 1}, {1, 3, 3}, {3, 51, 3}, {3, -1, 3}, {0, 51, 0}};
        for (int[] one : tolds) {
            ClaimBus bus = fixed(1, 1);
            bus.lose(1, one[0]);
            bus.lose(1, one[1]);
            for (int i = 0; i < 7; i++) {
                bus.send(0, 20, TO_ONE_GROUP, 1, i);
            }
            bus.pass(7);
            due(one[0] + ", then " + one[1], bus.told(1, 6), one[2]);
            due("came", bus.told(1, 4), 7 - one[2]);
        }
        ClaimBus bus = fixed(1, 1);
        bus.lose(1, 3);
        for (int i = 0; i < 7; i++) {
            bus.send(0, 20, TO_ONE_GROUP, 1, i);
        }
        bus.pass(2);
        bus.lose(1, 2);
        bus.pass(5);
        due("two, then two in place of the third", bus.told(1, 6), 4);
        bus.stop(1);
        due("stop() does not take the count back", bus.told(1, 6), 4);
    }

    private static void losesOfThoseThatCome() {
        sentence("9: of those that come to it");
        ClaimBus bus = fixed(1, 1);
        bus.node(0, 3, 30, false, 1);
        bus.lose(0, 5);
        bus.lose(2, 5);
        for (int i = 0; i < 3; i++) {
            bus.send(0, 20, TO_ONE_GROUP, 1, i);
        }
        bus.pass(3);
        due("not its own", bus.told(0, 6), 0);
        due("not when it is off", bus.told(2, 6), 0);
        bus.start(2);
        bus.pass(1);
        due("a claim", bus.told(0, 6), 1);
        bus.send(1, 30, TO_ONE_GROUP, 1, 1);
        bus.pass(1);
        due("one to another", bus.told(0, 6), 2);
        due("one that is claiming", bus.told(2, 6), 1);
        bus.send(1, 10, TO_ONE_GROUP, 1, 1);
        bus.request(1, 10);
        bus.pass(2);
        due("one to it, a request", bus.told(0, 6), 4);
        due("it did not hear the request", bus.told(0, 2), 0);
        due("no message", bus.told(0, 4), 0);
        due("the claim is not in its table", bus.table(0, 30), -1);
    }

    private static void passesOfTime() {
        sentence("10: so many milliseconds (1 .. 5,000) go by: the time; another number");
        ClaimBus bus = new ClaimBus();
        bus.node(0, 1, 10, false, 1);
        bus.start(0);
        for (int milliseconds : new int[] {LEAST, -5000, -1, 0, 5001, 5002, MOST}) {
            due("" + milliseconds, bus.pass(milliseconds), -1);
            due("no time went by", bus.count(1), 0);
            due("nothing was carried", bus.count(2), 0);
        }
        due("1", bus.pass(1), 1);
        due("the first is carried in the first", bus.count(2), 1);
        due("5000", bus.pass(5000), 5001);
        due("5000 again", bus.pass(5000), 10001);
        due("4999", bus.pass(4999), 15000);
        due("the time", bus.count(1), 15000);
        bus.request(0, 255);
        bus.send(0, 255, TO_ALL_GROUP, 1, 1);
        bus.pass(1);
        due("one frame a millisecond", bus.told(0, 2), 1);
        bus.pass(1);
        due("one frame a millisecond", bus.told(0, 2), 0);
        due("the bus does not keep what was not used", bus.count(2), 3);
    }

    private static void passesInParts() {
        sentence("10: so many milliseconds go by, in one call or in many");
        for (int nodes = 1; nodes < 4; nodes++) {
            ClaimBus whole = atWork(nodes);
            ClaimBus parts = atWork(nodes);
            whole.pass(400);
            for (int i = 0; i < 400; i++) {
                parts.pass(1);
            }
            whole.pass(4600);
            for (int i = 0; i < 46; i++) {
                parts.pass(100);
            }
            for (int i = 0; i < nodes; i++) {
                for (int what = 0; what < 7; what++) {
                    due("told " + i + " " + what, whole.told(i, what), parts.told(i, what));
                }
            }
            for (int what = 0; what < 4; what++) {
                due("carried " + what, whole.carried(what), parts.carried(what));
                due("count " + what, whole.count(what), parts.count(what));
            }
        }
        ClaimBus bus = atWork(1);
        bus.pass(5000);
        due("its claim, 32 and five packets", bus.count(2), 7);
    }

    /** One node sends to all; a second one to none; a third one gets from one that is off. */
    private static ClaimBus atWork(int nodes) {
        int[] windows = new int[nodes];
        java.util.Arrays.fill(windows, 4);
        ClaimBus bus = fixed(windows);
        bus.send(0, 255, TO_ALL_GROUP, 35, 1);
        if (nodes > 1) {
            bus.send(1, nodes > 2 ? 30 : 200, TO_ONE_GROUP, 100, 1);
        }
        if (nodes > 2) {
            bus.pass(2);
            bus.stop(1);
            bus.pass(2);
        }
        return bus;
    }

    private static void toldNumbers() {
        sentence("11: none such");
        ClaimBus bus = eachState();
        for (int what : new int[] {LEAST, -2, -1, 7, 8, MOST}) {
            for (int i = 0; i < 4; i++) {
                due("what " + what, bus.told(i, what), -1);
            }
        }
        for (int node : new int[] {LEAST, -1, 4, 8, MOST}) {
            for (int what = 0; what < 7; what++) {
                due("node " + node, bus.told(node, what), -1);
            }
        }
        int[][] want = {{2, 10, 0, 0, 0, 0, 0}, {1, 20, 0, 0, 0, 0, 0}, {3, 254, 0, 0, 0, 0, 0}, {0, 40, 0, 0, 0, 0, 0}};
        for (int i = 0; i < 4; i++) {
            for (int what = 0; what < 7; what++) {
                due("told " + i + " " + what, bus.told(i, what), want[i][what]);
            }
        }
    }

    private static void toldAddresses() {
        sentence("11: 1 its address (254 in state 3)");
        ClaimBus bus = new ClaimBus();
        bus.node(0, 1, 247, false, 1);
        bus.node(0, 2, 247, false, 1);
        bus.node(0, 3, 247, true, 1);
        due("off", bus.told(2, 1), 247);
        for (int i = 0; i < 3; i++) {
            bus.start(i);
        }
        due("claiming", bus.told(2, 1), 247);
        bus.pass(1);
        due("none, its claim waits", bus.told(1, 1), 254);
        due("claiming another", bus.told(2, 1), 128);
        bus.pass(300);
        due("none", bus.told(1, 1), 254);
        due("has another", bus.told(2, 1), 128);
        due("has it", bus.told(0, 1), 247);
    }

    private static void toldFrames() {
        sentence("11: 2 frames that wait, 4 messages that came, 5 transports, 6 frames lost");
        ClaimBus bus = fixed(16, 16, 16);
        for (int i = 0; i < 3; i++) {
            bus.send(0, 20, TO_ONE_GROUP, 8, i);
        }
        bus.send(0, 20, TO_ONE_GROUP, 112, 1);
        due("three messages and a 16", bus.told(0, 2), 4);
        bus.lose(1, 1);
        bus.pass(3);
        due("the 16 is left", bus.told(0, 2), 1);
        due("two came", bus.told(1, 4), 2);
        due("one was lost", bus.told(1, 6), 1);
        bus.pass(1);
        due("a 17", bus.told(1, 2), 1);
        bus.pass(1);
        due("sixteen packets", bus.told(0, 2), 16);
        bus.pass(1);
        due("fifteen", bus.told(0, 2), 15);
        bus.send(2, 255, TO_ALL_GROUP, 9, 1);
        bus.pass(14);
        due("gets one", bus.told(1, 5), 1);
        bus.pass(1);
        due("gets none", bus.told(1, 5), 0);
        due("the longer one is a third message", bus.told(1, 4), 3);
        due("a 19 waits", bus.told(1, 2), 1);
        bus.pass(2);
        due("collects one", bus.told(1, 5), 1);
        due("nothing waits", bus.told(0, 2) + bus.told(1, 2) + bus.told(2, 2), 0);
    }

    private static void tableAddresses() {
        sentence("12: which node's name has an address; BAD: none");
        ClaimBus bus = new ClaimBus();
        for (int i = 0; i < 8; i++) {
            bus.node(0, i, i < 2 ? 247 * i : 100 + i, false, 1);
        }
        for (int i = 0; i < 7; i++) {
            bus.start(i);
        }
        due("no claim came", bus.table(0, 247), -1);
        bus.pass(300);
        due("0", bus.table(1, 0), 0);
        due("247", bus.table(0, 247), 1);
        due("the last name", bus.table(0, 106), 6);
        due("its own", bus.table(0, 0), -1);
        due("one that is off keeps none", bus.table(7, 0), -1);
        due("one that is off has none", bus.table(0, 107), -1);
        for (int address : new int[] {LEAST, -2, -1, 1, 246, 248, 253, 254, 255, 256, 503, MOST}) {
            due("" + address, bus.table(0, address), -1);
        }
        for (int node : new int[] {LEAST, -1, 8, MOST}) {
            due("none such", bus.table(node, 0), -1);
        }
    }

    private static void messageNumbers() {
        sentence("13: of the k-th message that came: 0 .. 3; none such");
        ClaimBus bus = fixed(1, 1, 1);
        due("none came", bus.message(1, 0, 0), -1);
        bus.send(0, 20, TO_ONE_GROUP, 1, 1);
        bus.pass(1);
        bus.send(2, 255, 65535, 8, 255);
        bus.pass(1);
        int[][] want = {{10, TO_ONE_GROUP, 8, 1 + 255 * 35}, {30, 65535, 8, sum(8, 255)}};
        for (int k = 0; k < 2; k++) {
            for (int what = 0; what < 4; what++) {
                due("message " + k + " " + what, bus.message(1, k, what), want[k][what]);
            }
            for (int what : new int[] {LEAST, -1, 4, 5, MOST}) {
                due("what " + what, bus.message(1, k, what), -1);
            }
        }
        for (int k : new int[] {LEAST, -1, 2, 3, 19, 20, MOST}) {
            for (int what = 0; what < 4; what++) {
                due("k " + k, bus.message(1, k, what), -1);
            }
        }
        for (int node : new int[] {LEAST, -1, 3, 8, MOST}) {
            due("node " + node, bus.message(node, 0, 0), -1);
        }
        due("none came to that one", bus.message(2, 0, 0), -1);
    }

    private static void twentyMessages() {
        sentence("13: of the first 20");
        ClaimBus bus = fixed(1, 1);
        for (int many = 1; many <= 23; many++) {
            bus.send(0, 20, TO_ONE_GROUP, 8, many);
            bus.pass(1);
            due("came", bus.told(1, 4), many);
            due("the last one", bus.message(1, many - 1, 3), many <= 20 ? sum(8, many) : -1);
            due("the next one", bus.message(1, many, 3), -1);
        }
        for (int k = 0; k < 20; k++) {
            due("the first 20 stay", bus.message(1, k, 3), sum(8, k + 1));
            due("its source", bus.message(1, k, 0), 10);
        }
        bus.send(0, 20, TO_ONE_GROUP, 9, 1);
        bus.pass(20);
        due("a longer one", bus.told(1, 4), 24);
        due("is none of them", bus.message(1, 20, 2), -1);
        due("the 20th stays", bus.message(1, 19, 3), sum(8, 20));
    }

    private static void keptNumbers() {
        sentence("14: of the k-th; k is - 1: how many (what is not looked at); none such");
        ClaimBus bus = fixed(1, 1);
        for (int many = 0; many <= 10; many++) {
            bus.tell(0);
            bus.pass(400);
            for (int what : new int[] {LEAST, -1, 0, 2, 3, MOST}) {
                due("how many", bus.kept(1, 10, -1, what), many);
            }
            for (int k : new int[] {LEAST, -2, many, many + 1, 10, 11, MOST}) {
                due("k " + k + " of " + many, bus.kept(1, 10, k, 0), -1);
            }
            for (int what : new int[] {-1, 3, LEAST, MOST}) {
                due("what " + what, bus.kept(1, 10, many - 1 > 0 ? many - 1 : 0, what), -1);
            }
            if (many > 0) {
                due("the last one", bus.kept(1, 10, many - 1, 0), 1000 * many);
                due("the last one", bus.kept(1, 10, many - 1, 1), many);
                due("the last one", bus.kept(1, 10, many - 1, 2), 2 * many);
            }
            bus.trouble(0, 1000 * (many + 1), many + 1, 2 * (many + 1));
        }
    }

    private static void keptSources() {
        sentence("14: of a source; none such, or none was told");
        ClaimBus bus = new ClaimBus();
        int[] addresses = {0, 247, 100};
        for (int i = 0; i < 3; i++) {
            bus.node(0, i, addresses[i], false, 1);
            bus.start(i);
            bus.trouble(i, 7 + i, 1, 1);
        }
        bus.pass(300);
        due("none was told", bus.kept(2, 0, -1, 0), -1);
        due("none was told", bus.kept(2, 247, -1, 0), -1);
        bus.tell(0);
        bus.pass(1);
        due("told", bus.kept(2, 0, 0, 0), 7);
        due("none was told", bus.kept(2, 247, -1, 0), -1);
        bus.tell(1);
        bus.pass(1);
        due("told", bus.kept(2, 247, 0, 0), 8);
        due("the other stays", bus.kept(2, 0, 0, 0), 7);
        for (int source : new int[] {LEAST, -256, -1, 1, 100, 246, 248, 253, 254, 255, 256, 503, MOST}) {
            due("source " + source, bus.kept(2, source, -1, 0), -1);
            due("source " + source, bus.kept(2, source, 0, 0), -1);
        }
        for (int node : new int[] {LEAST, -1, 3, 8, MOST}) {
            due("node " + node, bus.kept(node, 0, -1, 0), -1);
        }
        due("its own", bus.kept(0, 0, -1, 0), -1);
        due("another's", bus.kept(0, 247, -1, 0), 1);
        keptOfAnAddress();
    }

    private static void keptOfAnAddress() {
        ClaimBus bus = new ClaimBus();
        bus.node(0, 9, 130, true, 1);
        bus.node(0, 1, 50, false, 1);
        bus.node(0, 2, 130, false, 1);
        bus.start(0);
        bus.start(1);
        bus.pass(300);
        bus.trouble(0, 5, 5, 5);
        bus.tell(0);
        bus.pass(1);
        bus.start(2);
        bus.pass(300);
        due("moved", bus.told(0, 1), 131);
        due("of the address that it had", bus.kept(1, 130, 0, 0), 5);
        due("not of the new one yet", bus.kept(1, 131, -1, 0), -1);
        bus.tell(0);
        bus.tell(2);
        bus.pass(2);
        due("of the new one", bus.kept(1, 131, 0, 0), 5);
        due("of the one that has the old one", bus.kept(1, 130, -1, 0), 0);
    }

    private static void carriedNumbers() {
        sentence("15: the last frame that was carried; 0: none was (3: BAD); another number");
        ClaimBus bus = new ClaimBus();
        int[] others = {LEAST, -2, -1, 4, 5, MOST};
        for (int what : others) {
            due("none was, " + what, bus.carried(what), 0);
        }
        bus.node(-2, -3, 247, false, 1);
        bus.start(0);
        bus.pass(300);
        carried(bus, "of node 0", claim(247), -3, -2, 0);
        for (int what : others) {
            due("" + what, bus.carried(what), 0);
        }
        bus.stop(0);
        carried(bus, "stays", claim(247), -3, -2, 0);
    }

    private static void soundOrDisturbed() {
        sentence("16: true also, if a frame was ever lost or a node stopped");
        ClaimBus bus = twins();
        due("two have one address", bus.count(3), 2);
        due("one address", bus.told(0, 1) + bus.told(1, 1), 20);
        yes("a frame was lost", bus.sound());
        bus.pass(5000);
        yes("a frame was ever lost", bus.sound());
        bus = fixed(1, 1);
        bus.lose(0, 50);
        yes("none was lost yet", bus.sound());
        bus.stop(1);
        yes("a node stopped", bus.sound());
    }

    private static void countNumbers() {
        sentence("17: 0 nodes, 1 the time, 2 frames carried, 3 nodes that HAVE an address; another number");
        ClaimBus bus = eachState();
        for (int what : new int[] {LEAST, -2, -1, 4, 5, MOST}) {
            due("" + what, bus.count(what), -1);
        }
        int[] want = {4, 310, 3, 1};
        for (int what = 0; what < 4; what++) {
            due("count " + what, bus.count(what), want[what]);
        }
        bus.pass(241);
        due("one more has its address", bus.count(3), 2);
        bus.request(1, 255);
        bus.pass(5);
        due("a request and two claims", bus.count(2), 6);
        bus.stop(0);
        due("one is off", bus.count(3), 1);
        due("four nodes still", bus.count(0), 4);
    }

    private static void calls512() {
        sentence("an object is used for at most 512 calls");
        ClaimBus bus = new ClaimBus();
        bus.node(0, 1, 10, false, 1);
        bus.node(0, 2, 20, false, 1);
        bus.start(0);
        bus.start(1);
        bus.pass(300);
        int sent = 0;
        for (int call = 6; call <= 508; call++) {
            sent += bus.send(0, 20, TO_ONE_GROUP, 8, call) ? 1 : 0;
        }
        due("all were sent", sent, 503);
        due("call 509: all wait", bus.told(0, 2), 503);
        due("call 510: all the time", bus.pass(503), 803);
        due("call 511: all came", bus.told(1, 4), 503);
        due("call 512: the last one", bus.carried(1), bytes(508, 0));
    }
}
