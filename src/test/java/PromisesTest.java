/** Runs by hand for each promise: ordinary calls, the edges that the document names, wrong calls. */
public final class PromisesTest extends Checks {
    private PromisesTest() {
    }

    public static void main(String[] args) {
        newObject();
        nodes();
        starts();
        stops();
        requests();
        sends();
        oneFrames();
        troubles();
        tells();
        loses();
        passes();
        orderOnTheBus();
        claimWaits();
        claimFights();
        freeAddresses();
        packetsToAll();
        collecting();
        packetsToOne();
        waitingSender();
        waitingReceiver();
        threePlaces();
        endsOfTransports();
        toldThings();
        tables();
        messages();
        keptTroubles();
        keptOfOddMessages();
        carriedFrames();
        soundness();
        counts();
        end("PromisesTest");
    }

    private static void newObject() {
        sentence("1");
        ClaimBus bus = new ClaimBus();
        due("BAD", ClaimBus.BAD, -1);
        for (int what = 0; what < 4; what++) {
            due("count", bus.count(what), 0);
        }
        yes("sound", bus.sound());
        due("told", bus.told(0, 0), -1);
        due("pass", bus.pass(5000), 5000);
        due("carried", bus.carried(0), 0);
        due("another object's nodes", new ClaimBus().node(1, 1, 1, false, 1), 0);
    }

    private static void nodes() {
        sentence("2");
        ClaimBus bus = new ClaimBus();
        due("address 248", bus.node(1, 1, 248, false, 1), -1);
        due("address -1", bus.node(1, 1, -1, false, 1), -1);
        due("window 0", bus.node(1, 1, 1, false, 0), -1);
        due("window 17", bus.node(1, 1, 1, false, 17), -1);
        due("the first", bus.node(1, 1, 0, false, 1), 0);
        due("its name again", bus.node(1, 1, 5, true, 2), -1);
        due("another half", bus.node(1, 2, 247, true, 16), 1);
        due("the other half", bus.node(2, 1, 0, true, 16), 2);
        due("off", bus.told(0, 0), 0);
        due("address", bus.told(1, 1), 247);
        for (int i = 3; i < 8; i++) {
            due("more", bus.node(-i, 0, i, true, i), i);
        }
        due("a ninth", bus.node(99, 99, 99, true, 1), -1);
        due("nodes", bus.count(0), 8);
    }

    private static void starts() {
        sentence("3");
        ClaimBus bus = new ClaimBus();
        bus.node(0x01020304, 0x85060708, 200, true, 1);
        no("none such", bus.start(1));
        no("none such", bus.start(-1));
        yes("start", bus.start(0));
        no("it is claiming", bus.start(0));
        due("state", bus.told(0, 0), 1);
        due("frames", bus.told(0, 2), 1);
        bus.pass(1);
        carried(bus, "claim", claim(200), 0x85060708, 0x01020304, 0);
        due("frames", bus.told(0, 2), 0);
        bus.pass(249);
        due("state at 250", bus.told(0, 0), 1);
        bus.pass(1);
        due("state at 251", bus.told(0, 0), 2);
        no("it has its address", bus.start(0));
        bus.stop(0);
        yes("again", bus.start(0));
        due("claiming anew", bus.told(0, 0), 1);
        bus.pass(250);
        due("claiming still", bus.told(0, 0), 1);
        bus.pass(1);
        due("has it", bus.told(0, 0), 2);
    }

    private static void stops() {
        sentence("4");
        ClaimBus bus = fixed(16, 16, 16);
        no("none such", bus.stop(3));
        no("none such", bus.stop(-1));
        bus.trouble(0, 7, 7, 7);
        bus.tell(0);
        bus.pass(1);
        due("kept", bus.kept(1, 10, -1, 0), 1);
        bus.send(0, 20, TO_ONE_GROUP, 100, 1);
        bus.send(1, 255, TO_ALL_GROUP, 100, 1);
        bus.send(2, 20, TO_ONE_GROUP, 100, 1);
        bus.pass(3);
        due("what it gets", bus.told(1, 5) > 0 ? 1 : 0, 1);
        yes("stop", bus.stop(1));
        no("it is off", bus.stop(1));
        due("state", bus.told(1, 0), 0);
        due("frames", bus.told(1, 2), 0);
        due("sends", bus.told(1, 3), 3);
        due("gets", bus.told(1, 5), 0);
        due("table", bus.table(1, 10), -1);
        due("kept", bus.kept(1, 10, -1, 0), -1);
        due("kept", bus.kept(1, 10, 0, 0), -1);
        due("messages that came", bus.told(1, 4), 1);
        due("the others' table", bus.table(0, 20), 1);
        bus.pass(2000);
        due("none hears it", bus.told(0, 3), 3);
        due("no frame comes to it", bus.told(1, 4), 1);
        bus.start(1);
        bus.pass(300);
        due("a name has its address again", bus.table(0, 20), 1);
        due("it forgot the claims before", bus.table(1, 10), -1);
        stopOfAnother();
    }

    private static void stopOfAnother() {
        ClaimBus bus = new ClaimBus();
        bus.node(0, 1, 130, true, 1);
        bus.node(0, 2, 130, true, 1);
        bus.start(0);
        bus.start(1);
        bus.pass(300);
        due("another address", bus.told(1, 1), 131);
        bus.send(1, 255, TO_ALL_GROUP, 8, 1);
        bus.stop(1);
        due("the one that it wanted", bus.told(1, 1), 130);
        due("DONE stays", bus.told(1, 3), 2);
        due("nothing sent", bus.told(0, 3), 0);
        bus.stop(0);
        due("nothing to fail", bus.told(0, 3), 0);
        bus.start(1);
        bus.pass(300);
        due("claims what it wanted", bus.told(1, 1), 130);
        due("has it", bus.told(1, 0), 2);
    }

    private static void requests() {
        sentence("5");
        ClaimBus bus = fixed(1, 1, 1);
        bus.node(0, 4, 20, false, 1);
        no("none such", bus.request(4, 255));
        no("none such", bus.request(-1, 255));
        no("off", bus.request(3, 255));
        no("254", bus.request(0, 254));
        no("256", bus.request(0, 256));
        no("-1", bus.request(0, -1));
        bus.start(3);
        no("claiming", bus.request(3, 255));
        bus.pass(3);
        due("none", bus.told(3, 0), 3);
        no("none", bus.request(3, 255));
        bus.pass(300);
        yes("to one", bus.request(0, 20));
        bus.pass(1);
        carried(bus, "request", identifier(234, 20, 10), four(0, 238, 0, 255), -1, 0);
        due("asked", bus.told(1, 2), 1);
        due("not asked", bus.told(2, 2), 0);
        bus.pass(1);
        carried(bus, "answer", claim(20), 2, 0, 1);
        bus.pass(1);
        due("no more", bus.count(2), 3 + 3 + 2);
        due("has it all the while", bus.told(1, 0), 2);
        yes("to all", bus.request(1, 255));
        bus.pass(1);
        bus.pass(1);
        carried(bus, "first answer", claim(10), 1, 0, 0);
        bus.pass(1);
        carried(bus, "second answer", claim(30), 3, 0, 2);
        bus.pass(1);
        carried(bus, "answer of one that has none", claim(254), 4, 0, 3);
        due("the asker puts none", bus.told(1, 2), 0);
        yes("253", bus.request(0, 253));
        yes("0", bus.request(0, 0));
        yes("itself", bus.request(0, 10));
        bus.pass(10);
        due("none answers", bus.count(2), 8 + 4 + 3);
        requestWhileClaiming();
    }

    private static void requestWhileClaiming() {
        ClaimBus bus = fixed(1);
        bus.node(0, 2, 20, false, 1);
        bus.start(1);
        bus.pass(100);
        bus.request(0, 20);
        bus.pass(2);
        carried(bus, "a claiming one answers", claim(20), 2, 0, 1);
        bus.pass(249);
        due("250 behind its last claim", bus.told(1, 0), 1);
        bus.pass(1);
        due("250 behind its last claim", bus.told(1, 0), 2);
        bus.request(0, 255);
        bus.request(0, 20);
        bus.pass(5);
        due("each request one claim", bus.count(2), 1 + 1 + 2 + 4);
    }

    private static void sends() {
        sentence("6");
        ClaimBus bus = fixed(1, 1);
        bus.node(0, 3, 10, false, 1);
        no("none such", bus.send(3, 255, TO_ALL_GROUP, 1, 1));
        no("none such", bus.send(-1, 255, TO_ALL_GROUP, 1, 1));
        no("off", bus.send(2, 255, TO_ALL_GROUP, 1, 1));
        bus.start(2);
        no("claiming", bus.send(2, 255, TO_ALL_GROUP, 1, 1));
        bus.pass(300);
        no("has none", bus.send(2, 255, TO_ALL_GROUP, 1, 1));
        no("size 0", bus.send(0, 255, TO_ALL_GROUP, 0, 1));
        no("size -1", bus.send(0, 255, TO_ALL_GROUP, -1, 1));
        no("size 1786", bus.send(0, 255, TO_ALL_GROUP, 1786, 1));
        no("group -1", bus.send(0, 255, -1, 1, 1));
        no("group -256", bus.send(0, 255, -256, 1, 1));
        no("group 262144", bus.send(0, 255, 262144, 1, 1));
        no("lowest 8 bits", bus.send(0, 255, 239 * 256 + 1, 1, 1));
        no("lowest 8 bits", bus.send(0, 20, 65536 + 128, 1, 1));
        for (int format : new int[] {234, 235, 236, 238}) {
            no("format taken", bus.send(0, 255, format * 256, 1, 1));
            no("format taken", bus.send(0, 20, format * 256, 9, 1));
        }
        no("to 254", bus.send(0, 254, TO_ONE_GROUP, 1, 1));
        no("to 256", bus.send(0, 256, TO_ONE_GROUP, 1, 1));
        no("to -1", bus.send(0, -1, TO_ONE_GROUP, 1, 1));
        no("format 240 to one", bus.send(0, 20, 240 * 256, 1, 1));
        no("format 255 to one", bus.send(0, 20, 262143, 1, 1));
        due("nothing sent yet", bus.told(0, 3), 0);
        due("nothing waits", bus.told(0, 2), 0);
        int right = 0;
        for (int format : new int[] {0, 233, 237, 239, 256 + 234, 256 + 235, 512 + 236, 768 + 238}) {
            right += bus.send(0, 20, format * 256, 1, 1) && bus.send(0, 255, format * 256, 8, 1) ? 2 : 0;
        }
        due("formats below 240", right, 16);
        yes("format 240", bus.send(0, 255, 240 * 256 + 255, 1, 1));
        yes("the greatest group", bus.send(0, 255, 262143, 1, 1));
        yes("to 253", bus.send(0, 253, TO_ONE_GROUP, 1, 1));
        yes("to 0", bus.send(0, 0, TO_ONE_GROUP, 1, 1));
        due("each one frame", bus.told(0, 2), 20);
        due("DONE", bus.told(0, 3), 2);
        yes("longest", bus.send(0, 20, TO_ONE_GROUP, 1785, 1));
        due("under way", bus.told(0, 3), 1);
        no("not ended", bus.send(0, 20, TO_ONE_GROUP, 1, 1));
        no("not ended", bus.tell(0));
        yes("a request goes", bus.request(0, 20));
    }

    private static void oneFrames() {
        sentence("6 (one frame)");
        ClaimBus bus = fixed(1, 1, 1);
        bus.send(0, 20, TO_ONE_GROUP, 3, 7);
        bus.pass(1);
        carried(bus, "to one", identifier(239, 20, 10), four(7, 8, 11, 255), -1, 0);
        due("came", bus.told(1, 4), 1);
        due("not to another", bus.told(2, 4), 0);
        due("size", bus.message(1, 0, 2), 8);
        due("sum", bus.message(1, 0, 3), 7 + 16 + 33 + 255 * (4 + 5 + 6 + 7 + 8));
        bus.send(1, 255, TO_ONE_GROUP, 8, -1);
        bus.pass(1);
        carried(bus, "to all", identifier(239, 255, 20), four(255, 0, 3, 8), four(15, 24, 35, 48), 1);
        due("came", bus.told(0, 4) + bus.told(2, 4), 2);
        due("its group", bus.message(0, 0, 1), TO_ONE_GROUP);
        bus.send(2, 255, 3 * 65536 + 241 * 256 + 17, 1, 512 + 65);
        bus.pass(1);
        carried(bus, "page 3", identifier(768 + 241, 17, 30), four(65, 255, 255, 255), -1, 2);
        due("its group", bus.message(0, 1, 1), 3 * 65536 + 241 * 256 + 17);
        due("its source", bus.message(0, 1, 0), 30);
        bus.send(0, 20, 65536 + 234 * 256, 2, 0);
        bus.pass(1);
        due("no request", bus.told(1, 2), 0);
        due("page 1", bus.message(1, bus.told(1, 4) - 1, 1), 65536 + 234 * 256);
        bus.send(2, 255, 240 * 256 + 17, 8, 0);
        bus.pass(1);
        carried(bus, "format 240", identifier(240, 17, 30), four(0, 1, 4, 9), four(16, 25, 36, 49), 2);
        due("format 240 is to all", bus.message(0, 2, 1), 240 * 256 + 17);
        bus.send(0, 10, TO_ONE_GROUP, 2, 0);
        int before = bus.told(0, 4);
        bus.pass(2);
        due("to its own address", bus.told(0, 4), before);
        hearingNeedsAnAddress();
    }

    private static void hearingNeedsAnAddress() {
        ClaimBus bus = fixed(1, 1);
        bus.node(0, 3, 30, false, 1);
        bus.node(0, 4, 20, false, 1);
        bus.start(2);
        bus.start(3);
        bus.pass(10);
        bus.send(0, 255, TO_ALL_GROUP, 1, 1);
        bus.send(0, 30, TO_ONE_GROUP, 1, 1);
        bus.send(0, 255, TO_ALL_GROUP, 10, 1);
        bus.pass(3);
        due("has", bus.told(1, 4), 1);
        due("claiming", bus.told(2, 4), 0);
        due("none", bus.told(3, 4), 0);
        due("collects", bus.told(1, 5), 1);
        due("claiming", bus.told(2, 5), 0);
        due("none", bus.told(3, 5), 0);
    }

    private static void troubles() {
        sentence("7");
        ClaimBus bus = new ClaimBus();
        due("none such", bus.trouble(0, 1, 1, 1), -1);
        bus.node(1, 1, 1, false, 1);
        due("none such", bus.trouble(-1, 1, 1, 1), -1);
        due("spn", bus.trouble(0, 524288, 1, 1), -1);
        due("spn", bus.trouble(0, -1, 1, 1), -1);
        due("fmi", bus.trouble(0, 1, 32, 1), -1);
        due("fmi", bus.trouble(0, 1, -1, 1), -1);
        due("oc", bus.trouble(0, 1, 1, 128), -1);
        due("oc", bus.trouble(0, 1, 1, -1), -1);
        due("least", bus.trouble(0, 0, 0, 0), 1);
        due("greatest", bus.trouble(0, 524287, 31, 127), 2);
        for (int i = 3; i <= 10; i++) {
            due("more", bus.trouble(0, i, i, i), i);
        }
        due("has ten", bus.trouble(0, 1, 1, 1), -1);
    }

    private static void tells() {
        sentence("8");
        ClaimBus bus = fixed(1, 1);
        bus.node(0, 3, 10, false, 1);
        no("none such", bus.tell(3));
        no("none such", bus.tell(-1));
        no("off", bus.tell(2));
        bus.start(2);
        no("claiming", bus.tell(2));
        bus.pass(10);
        no("none", bus.tell(2));
        yes("without any", bus.tell(0));
        due("DONE", bus.told(0, 3), 2);
        bus.pass(1);
        carried(bus, "without any", identifier(254, 202, 10), four(0, 255, 255, 255), -1, 0);
        bus.trouble(0, 0x5ABCD, 17, 100);
        yes("one", bus.tell(0));
        bus.pass(1);
        carried(bus, "one", identifier(254, 202, 10), four(64, 255, 0xCD, 0xAB), four(5 << 5 | 17, 100, 255, 255), 0);
        bus.trouble(0, 1, 2, 3);
        yes("two", bus.tell(0));
        due("under way", bus.told(0, 3), 1);
        no("not ended", bus.tell(0));
        bus.trouble(0, 4, 5, 6);
        bus.pass(1);
        carried(bus, "two", identifier(236, 255, 10), four(32, 10, 0, 2), four(255, 202, 254, 0), 0);
        bus.pass(49);
        carried(bus, "packet 1", identifier(235, 255, 10), four(1, 64, 255, 0xCD), four(0xAB, 5 << 5 | 17, 100, 1), 0);
        bus.pass(50);
        carried(bus, "packet 2", identifier(235, 255, 10), four(2, 0, 2, 3), -1, 0);
        due("as it was when sent", bus.kept(1, 10, -1, 0), 2);
        bus.tell(0);
        bus.pass(300);
        due("three now", bus.kept(1, 10, -1, 0), 3);
    }

    private static void loses() {
        sentence("9");
        ClaimBus bus = fixed(1, 1, 1);
        no("none such", bus.lose(3, 1));
        no("none such", bus.lose(-1, 1));
        no("51", bus.lose(0, 51));
        no("-1", bus.lose(0, -1));
        yes("50", bus.lose(0, 50));
        yes("in place of that", bus.lose(0, 2));
        for (int i = 0; i < 3; i++) {
            bus.send(1, 30, TO_ONE_GROUP, 1, i);
        }
        bus.send(1, 10, TO_ONE_GROUP, 1, 9);
        bus.pass(2);
        due("two, though they are not to it", bus.told(0, 6), 2);
        bus.pass(2);
        due("no more", bus.told(0, 6), 2);
        due("came", bus.told(0, 4), 1);
        due("the others lose none", bus.told(2, 4), 3);
        due("the others lose none", bus.told(2, 6), 0);
        bus.lose(1, 5);
        yes("0 ends it", bus.lose(1, 0));
        bus.send(0, 20, TO_ONE_GROUP, 1, 9);
        bus.pass(1);
        due("came", bus.told(1, 4), 1);
        bus.lose(2, 1);
        bus.stop(2);
        bus.send(0, 30, TO_ONE_GROUP, 1, 9);
        bus.pass(1);
        due("none comes to one that is off", bus.told(2, 6), 0);
        bus.lose(0, 1);
        bus.start(2);
        bus.pass(1);
        due("claims are lost, too", bus.told(0, 6), 3);
        bus.send(0, 30, TO_ONE_GROUP, 1, 9);
        bus.pass(1);
        due("what was told stays", bus.told(2, 6), 1);
    }

    private static void passes() {
        sentence("10");
        ClaimBus bus = new ClaimBus();
        due("0", bus.pass(0), -1);
        due("-1", bus.pass(-1), -1);
        due("5001", bus.pass(5001), -1);
        due("1", bus.pass(1), 1);
        due("5000", bus.pass(5000), 5001);
        due("2", bus.pass(2), 5003);
        due("the time", bus.count(1), 5003);
        bus.node(0, 1, 10, false, 1);
        bus.start(0);
        due("one frame each", bus.count(2), 0);
        bus.pass(1);
        due("one frame each", bus.count(2), 1);
        bus.pass(300);
        for (int i = 0; i < 5; i++) {
            bus.send(0, 255, TO_ALL_GROUP, 1, i);
        }
        bus.pass(3);
        due("one frame each", bus.told(0, 2), 2);
        due("one frame each", bus.count(2), 4);
        due("as they were put", bus.carried(1), four(2, 255, 255, 255));
    }

    private static void orderOnTheBus() {
        sentence("10 (order)");
        ClaimBus bus = new ClaimBus();
        bus.node(0, 0x00000200, 254 - 100, false, 1);
        bus.node(0, 0x00000201, 20, false, 1);
        bus.node(0, 0x80000100, 30, false, 1);
        bus.node(0x80000000, 0x00000100, 20, false, 1);
        bus.node(0, 0x00000100, 20, false, 1);
        for (int i = 0; i < 5; i++) {
            bus.start(i);
        }
        bus.pass(1);
        carried(bus, "least identifier, then least bytes (0, 1, 0, 0, 0 ..)", claim(20), 0x00000100, 0, 4);
        bus.pass(3);
        due("no claim of 20 waits", bus.told(1, 0) + bus.told(3, 0), 6);
        laterOrder();
        sameIdentifier();
    }

    private static void laterOrder() {
        ClaimBus bus = fixed(1, 1, 1);
        bus.send(2, 255, 65535, 1, 1);
        bus.send(0, 255, 65536, 1, 1);
        bus.send(1, 255, 65280, 1, 1);
        bus.send(1, 255, 65280, 1, 1);
        bus.request(0, 20);
        bus.pass(1);
        due("the least group first", bus.carried(3), 1);
        bus.pass(1);
        due("again", bus.carried(3), 1);
        bus.pass(1);
        due("then the next", bus.carried(3), 2);
        bus.pass(1);
        due("then the greatest", bus.carried(3), 0);
        due("a frame behind waits", bus.told(0, 2), 1);
        bus.pass(1);
        due("now it went", bus.carried(0), identifier(234, 20, 10));
        bus.send(1, 255, 65280, 1, 1);
        bus.pass(1);
        due("a claim stands before all", bus.carried(0), claim(20));
        due("the message waits", bus.told(1, 2), 1);
    }

    /** Two nodes that both have one address (a claim was lost) put like identifiers. */
    private static void sameIdentifier() {
        for (int turn = 0; turn < 5; turn++) {
            int[] seeds = {0x80, 0x7F, 1, 2, 5};
            int[] others = {0x7F, 0x80, 2, 1, 5};
            ClaimBus bus = twins();
            bus.send(0, 255, TO_ALL_GROUP, 8, seeds[turn]);
            bus.send(1, 255, TO_ALL_GROUP, 8, others[turn]);
            bus.pass(1);
            due("less bytes first " + turn, bus.carried(3), seeds[turn] <= others[turn] ? 0 : 1);
        }
        ClaimBus bus = twins();
        bus.send(0, 255, TO_ALL_GROUP, 2, 0);
        bus.send(1, 255, TO_ALL_GROUP, 1, 0);
        bus.pass(1);
        due("the second byte", bus.carried(3), 0);
        bus = twins();
        bus.send(0, 255, TO_ALL_GROUP, 8, 0);
        bus.send(1, 255, TO_ALL_GROUP, 7, 0);
        bus.pass(1);
        due("the last byte", bus.carried(3), 0);
        bus = twins();
        bus.send(0, 255, TO_ALL_GROUP, 7, 0);
        bus.send(1, 255, TO_ALL_GROUP, 8, 0);
        bus.pass(1);
        due("the last byte", bus.carried(3), 1);
    }

    private static void claimWaits() {
        sentence("Terms: claims, waiting");
        ClaimBus bus = new ClaimBus();
        bus.node(0, 5, 130, true, 1);
        bus.node(0, 9, 130, true, 1);
        bus.start(0);
        bus.pass(250);
        bus.start(1);
        bus.pass(1);
        due("has it in its 251st", bus.told(0, 0), 2);
        due("puts its claim again", bus.told(0, 2), 1);
        due("the other claims still", bus.told(1, 1), 130);
        bus.pass(1);
        due("and has it all the while", bus.told(0, 0), 2);
        due("moved on", bus.told(1, 1), 131);
        due("with a claim", bus.told(1, 2), 1);
        bus.pass(1);
        carried(bus, "its claim", claim(131), 9, 0, 1);
        bus.pass(249);
        due("claiming", bus.told(1, 0), 1);
        bus.pass(1);
        due("250 behind its last claim", bus.told(1, 0), 2);
        lateRival();
        oneClaimAtATime();
    }

    /** Two rivals' claims are carried before the answer: their bytes, not their names, are less. */
    private static void oneClaimAtATime() {
        ClaimBus bus = new ClaimBus();
        bus.node(0, 0x000000FF, 130, true, 1);
        bus.node(0, 0x00000110, 130, true, 1);
        bus.node(0, 0x00000205, 130, true, 1);
        bus.start(0);
        bus.pass(300);
        bus.start(1);
        bus.start(2);
        bus.pass(2);
        due("two claims came", bus.carried(3), 1);
        due("one claim alone waits", bus.told(0, 2), 1);
        bus.pass(10);
        due("no more claims than needed", bus.count(2), 1 + 2 + 1 + 3);
        due("the next", bus.told(1, 1), 131);
        due("the one behind", bus.told(2, 1), 132);
    }

    /** A claim to a new address waits anew, though 250 went by since the one to the old address. */
    private static void lateRival() {
        ClaimBus bus = new ClaimBus();
        bus.node(0, 5, 130, true, 1);
        bus.node(0, 3, 130, true, 1);
        bus.start(0);
        bus.pass(249);
        bus.start(1);
        bus.pass(1);
        due("lost it", bus.told(0, 1), 131);
        bus.pass(1);
        due("claiming", bus.told(0, 0), 1);
        bus.pass(249);
        due("claiming", bus.told(0, 0), 1);
        bus.pass(1);
        due("has it", bus.told(0, 0), 2);
    }

    private static void claimFights() {
        sentence("Terms: claims, fights");
        ClaimBus bus = new ClaimBus();
        bus.node(0, -1, 50, true, 1);
        bus.node(1, 0, 50, true, 1);
        bus.node(-1, 0, 50, false, 1);
        bus.start(1);
        bus.pass(300);
        bus.send(1, 255, TO_ALL_GROUP, 100, 1);
        bus.send(1, 255, TO_ALL_GROUP, 1, 1);
        bus.start(2);
        bus.pass(10);
        due("the high half counts, without sign", bus.told(2, 0), 3);
        due("none", bus.told(2, 1), 254);
        due("has it", bus.told(1, 0), 2);
        due("a name with 254 has none", bus.table(1, 254), -1);
        due("goes on to send", bus.told(1, 3), 1);
        bus.start(0);
        bus.pass(1);
        due("a less name came", bus.told(1, 0), 1);
        due("its first free address", bus.told(1, 1), 128);
        due("what it sent FAILED", bus.told(1, 3), 3);
        due("only its claim waits", bus.told(1, 2), 1);
        bus.pass(300);
        due("has it", bus.told(0, 1), 50);
        due("has it", bus.told(1, 0), 2);
        due("none still", bus.told(2, 0), 3);
        due("one in state 3 hears claims", bus.table(2, 50), 0);
        due("one in state 3 hears claims", bus.table(2, 128), 1);
        fightThatDropsAll();
        noneDoesNotFight();
    }

    private static void fightThatDropsAll() {
        ClaimBus bus = fixed(16, 16, 16);
        bus.node(-1, 5, 40, true, 16);
        bus.node(-1, 4, 40, true, 16);
        bus.start(3);
        bus.pass(300);
        bus.send(1, 255, TO_ALL_GROUP, 1000, 1);
        bus.pass(1);
        bus.send(0, 40, TO_ONE_GROUP, 1000, 1);
        bus.pass(10);
        bus.request(3, 200);
        due("gets and collects", bus.told(3, 5), 2);
        bus.start(4);
        bus.pass(1);
        due("all is dropped", bus.told(3, 5), 0);
        due("but its claim", bus.told(3, 2), 1);
        due("moved", bus.told(3, 1), 128);
        bus.pass(3000);
        due("the sender gave up", bus.told(0, 3), 3);
        due("nothing came", bus.told(3, 4), 0);
    }

    private static void noneDoesNotFight() {
        ClaimBus bus = new ClaimBus();
        bus.node(0, 1, 200, false, 1);
        bus.node(0, 2, 200, false, 1);
        bus.start(0);
        bus.start(1);
        bus.pass(300);
        due("none", bus.told(1, 0), 3);
        due("none", bus.told(1, 1), 254);
        int carried = bus.count(2);
        bus.stop(0);
        bus.start(0);
        bus.pass(300);
        due("one claim, no answer", bus.count(2), carried + 1);
        bus.stop(1);
        due("what it wanted", bus.told(1, 1), 200);
    }

    private static void freeAddresses() {
        sentence("Terms: claims, free addresses");
        due("behind 127", moved(127, 300), 128);
        due("behind 0", moved(0, 300), 128);
        due("behind 128", moved(128, 300), 129);
        due("behind 246", moved(246, 300), 247);
        due("behind 247 it goes round", moved(247, 300), 128);
        due("past one that the table has", moved(128, 129), 130);
        due("round past one that the table has", moved(247, 128), 129);
        due("from 128 on past one that the table has", moved(5, 128), 129);
    }

    /** Where a node goes that wanted an address of a less name, with another node somewhere else. */
    private static int moved(int address, int taken) {
        ClaimBus bus = new ClaimBus();
        bus.node(0, 1, address, false, 1);
        bus.node(0, 2, taken > 247 ? 1 : taken, false, 1);
        bus.node(0, 3, address, true, 1);
        bus.start(2);
        bus.start(1);
        bus.pass(300);
        bus.start(0);
        bus.pass(1);
        return bus.told(2, 1);
    }

    private static void packetsToAll() {
        sentence("Terms: packets to all");
        ClaimBus bus = fixed(1, 1);
        bus.send(0, 255, 65290, 15, 3);
        due("the control frame is put at once", bus.told(0, 2), 1);
        bus.pass(1);
        carried(bus, "control", identifier(236, 255, 10), four(32, 15, 0, 3), four(255, 10, 255, 0), 0);
        due("collects", bus.told(1, 5), 1);
        bus.pass(48);
        due("not before 50", bus.count(2), 3);
        bus.pass(1);
        carried(bus, "packet 1", identifier(235, 255, 10), four(1, 3, 4, 7), four(12, 19, 28, 39), 0);
        bus.pass(49);
        due("not before 100", bus.count(2), 4);
        bus.pass(1);
        carried(bus, "packet 2", identifier(235, 255, 10), four(2, 52, 67, 84), four(103, 124, 147, 172), 0);
        due("under way", bus.told(0, 3), 1);
        bus.pass(50);
        carried(bus, "packet 3", identifier(235, 255, 10), four(3, 199, 255, 255), -1, 0);
        due("DONE", bus.told(0, 3), 2);
        due("came", bus.told(1, 4), 1);
        due("nothing open", bus.told(1, 5), 0);
        due("size", bus.message(1, 0, 2), 15);
        due("group", bus.message(1, 0, 1), 65290);
        due("sum", bus.message(1, 0, 3), sum(15, 3));
        bus.send(0, 255, 65290, 9, 30);
        bus.pass(150);
        due("sum of the next", bus.message(1, 1, 3), sum(9, 30));
        bus.send(1, 255, 3 * 65536, 9, 3);
        bus.pass(1);
        carried(bus, "control", identifier(236, 255, 20), four(32, 9, 0, 2), four(255, 0, 0, 3), 1);
        bus.pass(200);
        due("a format below 240 to all", bus.message(0, 0, 1), 3 * 65536);
        longestToAll();
    }

    private static void longestToAll() {
        ClaimBus bus = fixed(1, 1, 1);
        bus.send(0, 255, TO_ALL_GROUP, 1785, 100);
        bus.pass(1);
        carried(bus, "control", identifier(236, 255, 10), four(32, 1785 & 255, 1785 >> 8, 255), four(255, 0, 255, 0), 0);
        bus.pass(5000);
        bus.pass(5000);
        bus.pass(2748);
        due("under way", bus.told(0, 3), 1);
        bus.pass(1);
        due("DONE", bus.told(0, 3), 2);
        due("sum", bus.message(1, 0, 3), sum(1785, 100));
        due("sum", bus.message(2, 0, 3), sum(1785, 100));
    }

    private static void collecting() {
        sentence("Terms: collecting");
        ClaimBus bus = fixed(1, 1, 1);
        bus.send(0, 255, TO_ALL_GROUP, 40, 1);
        bus.send(1, 255, TO_ALL_GROUP, 40, 2);
        bus.pass(10);
        due("each source apart", bus.told(2, 5), 2);
        bus.pass(60);
        bus.lose(2, 1);
        bus.pass(30);
        due("one lost, the next was not expected yet", bus.told(2, 5), 2);
        bus.pass(50);
        due("a packet that is not the expected one drops it", bus.told(2, 5), 1);
        bus.pass(400);
        due("the other one came", bus.message(2, 0, 0), 20);
        due("no more came", bus.told(2, 4), 1);
        due("to the others all came", bus.told(0, 4) + bus.told(1, 4), 2);
        collectingEnds();
        collectingAnew();
    }

    private static void collectingEnds() {
        ClaimBus bus = fixed(1, 1);
        bus.send(0, 255, TO_ALL_GROUP, 40, 1);
        bus.pass(1);
        bus.stop(0);
        bus.pass(749);
        due("749 behind the control frame", bus.told(1, 5), 1);
        bus.pass(1);
        due("750 behind the control frame", bus.told(1, 5), 0);
        bus = fixed(1, 1);
        bus.send(0, 255, TO_ALL_GROUP, 40, 1);
        bus.pass(50);
        bus.stop(0);
        bus.pass(749);
        due("749 behind a packet", bus.told(1, 5), 1);
        bus.pass(1);
        due("750 behind a packet", bus.told(1, 5), 0);
    }

    private static void collectingAnew() {
        ClaimBus bus = fixed(1, 1);
        bus.send(0, 255, TO_ALL_GROUP, 40, 1);
        bus.pass(60);
        bus.stop(0);
        bus.start(0);
        bus.pass(260);
        bus.send(0, 255, 65281, 20, 2);
        bus.pass(1);
        due("in place of the old one", bus.told(1, 5), 1);
        bus.pass(200);
        due("came", bus.told(1, 4), 1);
        due("its group", bus.message(1, 0, 1), 65281);
        due("its size", bus.message(1, 0, 2), 20);
    }

    private static void packetsToOne() {
        sentence("Terms: packets to one");
        ClaimBus bus = fixed(5, 2, 1);
        bus.send(0, 20, 65536 * 2 + 61184, 25, 3);
        bus.pass(1);
        carried(bus, "16", identifier(236, 20, 10), four(16, 25, 0, 4), four(5, 0, 239, 2), 0);
        due("gets", bus.told(1, 5), 1);
        due("another gets none", bus.told(2, 5), 0);
        bus.pass(1);
        carried(bus, "17", identifier(236, 10, 20), four(17, 2, 1, 255), four(255, 0, 239, 2), 1);
        due("two at once", bus.told(0, 2), 2);
        bus.pass(1);
        carried(bus, "packet 1", identifier(235, 20, 10), four(1, 3, 4, 7), four(12, 19, 28, 39), 0);
        bus.pass(1);
        due("packet 2", bus.carried(1) & 255, 2);
        bus.pass(1);
        carried(bus, "17", identifier(236, 10, 20), four(17, 2, 3, 255), four(255, 0, 239, 2), 1);
        bus.pass(2);
        carried(bus, "packet 4", identifier(235, 20, 10), four(4, 188, 231, 20), four(67, 255, 255, 255), 0);
        due("came", bus.told(1, 4), 1);
        due("closed", bus.told(1, 5), 0);
        due("under way", bus.told(0, 3), 1);
        bus.pass(1);
        carried(bus, "19", identifier(236, 10, 20), four(19, 25, 0, 4), four(255, 0, 239, 2), 1);
        due("DONE", bus.told(0, 3), 2);
        due("group", bus.message(1, 0, 1), 65536 * 2 + 61184);
        due("the other got nothing", bus.told(2, 4), 0);
        bus.pass(5000);
        due("no more frames", bus.count(2), 3 + 8);
        windowsThatClear();
    }

    private static void windowsThatClear() {
        int[][] windows = {{3, 16, 3}, {16, 4, 4}, {16, 16, 6}, {1, 1, 1}};
        for (int[] one : windows) {
            ClaimBus bus = fixed(one[0], one[1]);
            bus.send(0, 20, TO_ONE_GROUP, 42, 1);
            bus.pass(2);
            due("the least of the windows and what is left", bus.carried(1), four(17, one[2], 1, 255));
        }
        ClaimBus bus = fixed(4, 16);
        bus.send(0, 20, TO_ONE_GROUP, 42, 1);
        bus.pass(7);
        due("what is left", bus.carried(1), four(17, 2, 5, 255));
        bus = fixed(16, 16);
        bus.send(0, 20, TO_ONE_GROUP, 1785, 200);
        bus.pass(272);
        due("the longest", bus.message(1, 0, 3), sum(1785, 200));
        due("its 19", bus.told(1, 2), 1);
        bus.pass(1);
        carried(bus, "19", identifier(236, 10, 20), four(19, 1785 & 255, 1785 >> 8, 255), four(255, 0, 239, 0), 1);
    }

    private static void waitingSender() {
        sentence("Terms: the sender waits");
        ClaimBus bus = fixed(4, 4);
        bus.send(0, 77, TO_ONE_GROUP, 20, 1);
        bus.pass(1249);
        due("under way", bus.told(0, 3), 1);
        due("16 alone", bus.count(2), 3);
        bus.pass(1);
        due("FAILED", bus.told(0, 3), 3);
        carried(bus, "255", identifier(236, 77, 10), four(255, 3, 255, 255), four(255, 0, 239, 0), 0);
        yes("it may send again", bus.send(0, 10, TO_ONE_GROUP, 20, 1));
        bus.pass(1249);
        due("none answers for its own address", bus.told(0, 3), 1);
        bus.pass(1);
        due("none answers for its own address", bus.told(0, 3), 3);
        waitsAnewAtPackets();
    }

    /** The 17 goes at 302, so that the packets are put at 302: the sender fails at 1552. */
    private static void waitsAnewAtPackets() {
        ClaimBus bus = fixed(2, 2);
        bus.send(0, 20, TO_ONE_GROUP, 50, 1);
        bus.pass(2);
        bus.stop(1);
        bus.pass(1249);
        due("under way", bus.told(0, 3), 1);
        bus.pass(1);
        due("1,250 behind the packets", bus.told(0, 3), 3);
        due("255", bus.carried(1), four(255, 3, 255, 255));
        bus = fixed(2, 2);
        bus.send(0, 20, TO_ONE_GROUP, 15, 1);
        bus.pass(1);
        bus.lose(0, 1);
        bus.pass(1249);
        due("255 when the 17 was lost", bus.carried(1), four(255, 3, 255, 255));
        due("FAILED", bus.told(0, 3), 3);
        due("the 255 drops what is got", bus.told(1, 5), 0);
    }

    private static void waitingReceiver() {
        sentence("Terms: the receiver waits");
        ClaimBus bus = fixed(2, 2);
        bus.send(0, 20, TO_ONE_GROUP, 28, 1);
        bus.pass(2);
        bus.lose(1, 2);
        bus.pass(1248);
        due("both packets lost", bus.told(1, 6), 2);
        due("nothing yet", bus.count(2), 2 + 2 + 2);
        bus.pass(1);
        carried(bus, "17 again, 1,250 behind the first", identifier(236, 10, 20), four(17, 2, 1, 255), four(255, 0, 239, 0), 1);
        bus.pass(10);
        due("so it came", bus.told(1, 4), 1);
        due("and was DONE", bus.told(0, 3), 2);
        packetLostWithin();
        thirdTime();
    }

    private static void packetLostWithin() {
        ClaimBus bus = fixed(3, 3);
        bus.send(0, 20, TO_ONE_GROUP, 28, 1);
        bus.pass(3);
        bus.lose(1, 1);
        bus.pass(1);
        bus.pass(1);
        due("packet 3 is not the expected one", bus.carried(1) & 255, 3);
        bus.pass(1246);
        due("under way", bus.told(0, 3), 1);
        bus.pass(1);
        due("the sender put its packets before", bus.told(0, 3), 3);
        due("255 dropped it", bus.told(1, 5), 0);
    }

    /** The sender is off: the receiver puts 17 at 301, 1551, 2801 and 255 at 4051. */
    private static void thirdTime() {
        ClaimBus bus = fixed(2, 2);
        bus.send(0, 20, TO_ONE_GROUP, 28, 1);
        bus.pass(1);
        bus.stop(0);
        bus.pass(1249);
        due("17 once", bus.count(2), 4);
        bus.pass(1);
        due("17 again", bus.count(2), 5);
        due("17 again", bus.carried(1), four(17, 2, 1, 255));
        bus.pass(1249);
        due("not before", bus.count(2), 5);
        bus.pass(1);
        due("17 a third time", bus.count(2), 6);
        due("17 a third time", bus.carried(1), four(17, 2, 1, 255));
        bus.pass(1249);
        due("gets still", bus.told(1, 5), 1);
        bus.pass(1);
        carried(bus, "255", identifier(236, 10, 20), four(255, 3, 255, 255), four(255, 0, 239, 0), 1);
        due("dropped", bus.told(1, 5), 0);
        bus.pass(5000);
        due("no more", bus.count(2), 7);
        bus.start(0);
        bus.pass(300);
        bus.send(0, 20, TO_ONE_GROUP, 28, 1);
        bus.pass(1);
        bus.stop(0);
        bus.pass(1250);
        due("a new one waits three times, too", bus.carried(1), four(17, 2, 1, 255));
        due("a new one waits three times, too", bus.told(1, 5), 1);
        bus = fixed(3, 3);
        bus.send(0, 20, TO_ONE_GROUP, 28, 1);
        bus.pass(3);
        bus.stop(0);
        bus.pass(1249);
        due("nothing before 1,250 behind a packet taken", bus.carried(1) & 255, 1);
        bus.pass(1);
        due("17 from the next one on", bus.carried(1), four(17, 3, 2, 255));
    }

    private static void threePlaces() {
        sentence("Terms: three transports");
        ClaimBus bus = new ClaimBus();
        for (int i = 0; i < 5; i++) {
            bus.node(0, i + 1, i == 4 ? 5 : 10 * (i + 1), false, 4);
            bus.start(i);
        }
        bus.pass(300);
        for (int i = 0; i < 4; i++) {
            bus.send(i, 5, TO_ONE_GROUP + 65536 * i, 20, 1);
        }
        bus.lose(0, 50);
        bus.lose(1, 50);
        bus.lose(2, 50);
        bus.pass(7);
        due("three", bus.told(4, 5), 3);
        due("under way", bus.told(2, 3), 1);
        bus.pass(1);
        carried(bus, "255, why 2", identifier(236, 40, 5), four(255, 2, 255, 255), four(255, 0, 239, 3), 4);
        due("FAILED", bus.told(3, 3), 3);
        for (int i = 0; i < 3; i++) {
            bus.lose(i, 0);
        }
        bus.lose(4, 3);
        bus.pass(1246);
        due("the senders gave up, that was lost", bus.told(0, 3) + bus.told(1, 3) + bus.told(2, 3), 9);
        due("three still", bus.told(4, 5), 3);
        bus.send(2, 5, TO_ONE_GROUP, 9, 7);
        bus.pass(6);
        due("another of the same source begins anew", bus.told(2, 3), 2);
        due("two are left", bus.told(4, 5), 2);
        due("its group", bus.message(4, 0, 1), TO_ONE_GROUP);
        due("its source", bus.message(4, 0, 0), 30);
        placesInOrder();
        waitsOfOneThatBeganAnew();
        clearedTwice();
    }

    /** Two transports wait like long; the one in the first place speaks first, whoever began it. */
    private static void placesInOrder() {
        ClaimBus bus = new ClaimBus();
        int[] addresses = {10, 20, 30, 5};
        for (int i = 0; i < 4; i++) {
            bus.node(0, i + 1, addresses[i], false, 4);
            bus.start(i);
        }
        bus.pass(300);
        bus.lose(0, 1);
        bus.send(0, 5, TO_ONE_GROUP, 20, 1);
        bus.pass(2);
        bus.send(1, 5, TO_ONE_GROUP, 20, 1);
        bus.pass(1);
        bus.stop(1);
        bus.pass(2);
        bus.stop(0);
        due("two", bus.told(3, 5), 2);
        bus.pass(1246);
        due("the first place's 17", bus.carried(0), identifier(236, 10, 5));
        bus.pass(5);
        due("then the second's", bus.carried(0), identifier(236, 20, 5));
    }

    /** A 16 behind two waits of the same source: the third wait is the first one of the new transport. */
    private static void waitsOfOneThatBeganAnew() {
        ClaimBus bus = fixed(4, 4);
        bus.send(0, 20, TO_ONE_GROUP, 20, 1);
        bus.pass(1);
        bus.stop(0);
        bus.pass(2501);
        due("17 a third time", bus.count(2), 6);
        bus.start(0);
        bus.pass(260);
        bus.send(0, 20, TO_ONE_GROUP, 20, 1);
        bus.pass(1);
        bus.stop(0);
        bus.pass(1250);
        due("17 again, not 255", bus.carried(1), four(17, 3, 1, 255));
        due("gets still", bus.told(1, 5), 1);
    }

    /** A 17 of the transport before comes when the new 16 is put: packets are put twice. */
    private static void clearedTwice() {
        ClaimBus bus = fixed(16, 16);
        bus.send(0, 20, TO_ONE_GROUP, 20, 1);
        bus.pass(1);
        bus.stop(0);
        bus.start(0);
        bus.pass(1249);
        bus.send(0, 20, TO_ONE_GROUP, 14, 9);
        bus.pass(1);
        carried(bus, "17 of the old one", identifier(236, 10, 20), four(17, 3, 1, 255),
            four(255, 0, 239, 0), 1);
        due("also a packet behind the last one", bus.told(0, 2), 4);
        bus.pass(4);
        carried(bus, "a packet of 255s", identifier(235, 20, 10), four(3, 255, 255, 255), -1, 0);
        due("came", bus.told(1, 4), 1);
        due("under way", bus.told(0, 3), 1);
        bus.pass(4);
        due("17, both packets again, 19", bus.carried(1), four(19, 14, 0, 2));
        due("came once", bus.told(1, 4), 1);
        due("size", bus.message(1, 0, 2), 14);
        due("DONE", bus.told(0, 3), 2);
    }

    private static void endsOfTransports() {
        sentence("Terms: 17, 19 and 255 of others");
        ClaimBus bus = fixed(4, 4, 4);
        bus.send(0, 20, TO_ONE_GROUP, 200, 1);
        bus.send(1, 10, TO_ONE_GROUP + 65536, 200, 1);
        bus.pass(100);
        due("both ways at once", bus.told(0, 3) + bus.told(1, 3), 4);
        due("both came", bus.told(0, 4) + bus.told(1, 4), 2);
        bus.send(0, 20, TO_ONE_GROUP, 1785, 1);
        bus.pass(20);
        bus.stop(0);
        bus.start(0);
        bus.pass(260);
        due("gets from a source that fell silent", bus.told(1, 5), 1);
        bus.send(0, 30, TO_ONE_GROUP, 1785, 1);
        bus.pass(1000);
        due("17 to it in that group, but it sends to another", bus.told(0, 3), 2);
        due("came whole", bus.message(2, 0, 2), 1785);
        dropsByGroup();
    }

    /** 255 drops what is got from its source if the group is that one, and only then. */
    private static void dropsByGroup() {
        for (int turn = 0; turn < 2; turn++) {
            ClaimBus bus = fixed(4, 4);
            bus.send(0, 20, TO_ONE_GROUP, 100, 1);
            bus.pass(1);
            bus.stop(0);
            bus.start(0);
            bus.pass(260);
            bus.lose(1, 1);
            bus.send(0, 20, turn == 0 ? TO_ONE_GROUP : 0, 100, 1);
            bus.pass(1);
            due("the old one stands", bus.told(1, 5), 1);
            bus.lose(0, 50);
            bus.pass(1249);
            due("FAILED", bus.told(0, 3), 3);
            due("255", bus.carried(1), four(255, 3, 255, 255));
            due("dropped, if the group is that one", bus.told(1, 5), turn == 0 ? 0 : 1);
        }
    }

    private static void toldThings() {
        sentence("11");
        ClaimBus bus = fixed(4, 4);
        bus.node(0, 3, 20, false, 1);
        for (int what = 0; what < 7; what++) {
            due("none such", bus.told(3, what), -1);
            due("none such", bus.told(-1, what), -1);
        }
        due("what 7", bus.told(0, 7), -1);
        due("what -1", bus.told(0, -1), -1);
        int[] fresh = {0, 20, 0, 0, 0, 0, 0};
        for (int what = 0; what < 7; what++) {
            due("a node that is off", bus.told(2, what), fresh[what]);
        }
        bus.start(2);
        due("claiming", bus.told(2, 0), 1);
        bus.pass(3);
        due("none", bus.told(2, 0), 3);
        due("254", bus.told(2, 1), 254);
        due("has", bus.told(1, 0), 2);
        bus.send(0, 255, TO_ALL_GROUP, 20, 1);
        bus.send(1, 10, TO_ONE_GROUP, 20, 1);
        due("frames that wait", bus.told(0, 2), 1);
        due("under way", bus.told(0, 3), 1);
        bus.pass(3);
        due("gets", bus.told(0, 5), 1);
        due("collects", bus.told(1, 5), 1);
        bus.lose(2, 3);
        bus.pass(200);
        due("lost", bus.told(2, 6), 3);
        due("DONE", bus.told(0, 3) + bus.told(1, 3), 4);
        due("messages", bus.told(0, 4) + bus.told(1, 4), 2);
        for (int i = 0; i < 25; i++) {
            bus.send(0, 20, TO_ONE_GROUP, 1, i);
        }
        due("25 wait", bus.told(0, 2), 25);
        bus.pass(25);
        due("more than 20 came", bus.told(1, 4), 26);
        for (int i = 0; i < 200; i++) {
            bus.send(0, 20, TO_ONE_GROUP, 1, i);
        }
        due("200 wait", bus.told(0, 2), 200);
        bus.pass(1);
        due("in their order", bus.carried(1), four(0, 255, 255, 255));
        bus.pass(199);
        due("in their order", bus.carried(1), four(199, 255, 255, 255));
        due("none waits", bus.told(0, 2), 0);
        claimBeforePackets();
        packetsOfNone();
    }

    private static void claimBeforePackets() {
        ClaimBus bus = fixed(16, 16);
        bus.send(0, 20, TO_ONE_GROUP, 100, 1);
        bus.pass(2);
        due("15 packets put at once", bus.told(0, 2), 15);
        bus.pass(3);
        due("12 are left", bus.told(0, 2), 12);
        bus.request(1, 10);
        bus.pass(1);
        due("and a claim", bus.told(0, 2), 13);
        bus.request(0, 20);
        due("and a request", bus.told(0, 2), 14);
        bus.pass(1);
        carried(bus, "the claim first", claim(10), 1, 0, 0);
        for (int number = 4; number <= 15; number++) {
            bus.pass(1);
            due("the packets go on", bus.carried(1) & 255, number);
        }
        due("the request is left", bus.told(0, 2), 1);
        bus.pass(1);
        carried(bus, "the request last", identifier(234, 20, 10), four(0, 238, 0, 255), -1, 0);
    }

    private static void packetsOfNone() {
        ClaimBus bus = fixed(16, 16);
        bus.send(0, 20, TO_ONE_GROUP, 100, 1);
        bus.pass(4);
        due("13 packets wait", bus.told(0, 2), 13);
        bus.stop(0);
        due("none waits", bus.told(0, 2), 0);
        bus.start(0);
        due("the claim waits", bus.told(0, 2), 1);
        bus.pass(300);
        due("none waits", bus.told(0, 2), 0);
        bus.send(0, 20, TO_ONE_GROUP, 8, 1);
        bus.pass(1);
        due("one frame comes", bus.message(1, 0, 2), 8);
    }

    private static void tables() {
        sentence("12");
        ClaimBus bus = new ClaimBus();
        bus.node(0, 1, 0, false, 1);
        bus.node(0, 2, 130, true, 1);
        bus.node(0, 3, 130, true, 1);
        due("nothing yet", bus.table(0, 130), -1);
        bus.start(0);
        bus.start(2);
        bus.pass(300);
        due("by the claims that came", bus.table(0, 130), 2);
        due("not its own", bus.table(2, 130), -1);
        due("address 0", bus.table(2, 0), 0);
        bus.start(1);
        bus.pass(1);
        due("an address one name", bus.table(0, 130), 1);
        due("the old name has none", bus.table(0, 131), -1);
        bus.pass(1);
        due("its new address", bus.table(0, 131), 2);
        bus.stop(2);
        bus.start(2);
        bus.pass(10);
        due("back at its new one", bus.table(0, 131), 2);
        due("a name one address", bus.table(0, 130), 1);
        due("none such", bus.table(3, 130), -1);
        due("none such", bus.table(-1, 130), -1);
        due("no address", bus.table(0, -1), -1);
        due("no address", bus.table(0, 254), -1);
        due("no address", bus.table(0, 255), -1);
        due("no address", bus.table(0, 256), -1);
        due("no address", bus.table(0, 253), -1);
        due("the one that came late", bus.table(1, 0), -1);
        due("the one that came late", bus.table(1, 131), 2);
        nameThatGaveUp();
        lesserNameComesLate();
    }

    private static void lesserNameComesLate() {
        ClaimBus bus = new ClaimBus();
        bus.node(0, 9, 0, false, 1);
        bus.node(0, 8, 130, true, 1);
        bus.node(0, 7, 130, true, 1);
        bus.start(0);
        bus.start(1);
        bus.pass(300);
        bus.start(2);
        bus.pass(1);
        due("an address one name", bus.table(0, 130), 2);
        bus.pass(1);
        due("its new address", bus.table(0, 131), 1);
    }

    private static void nameThatGaveUp() {
        ClaimBus bus = new ClaimBus();
        bus.node(0, 1, 10, false, 1);
        bus.node(0, 5, 130, false, 1);
        bus.node(0, 3, 130, false, 1);
        bus.start(0);
        bus.start(1);
        bus.pass(300);
        due("has it", bus.table(0, 130), 1);
        bus.lose(0, 1);
        bus.start(2);
        bus.pass(1);
        due("that claim was lost", bus.table(0, 130), 1);
        bus.pass(1);
        due("a name with 254 none", bus.table(0, 130), -1);
    }

    private static void messages() {
        sentence("13");
        ClaimBus bus = fixed(4, 4, 4);
        bus.send(0, 20, TO_ONE_GROUP, 9, 7);
        bus.pass(20);
        int[] want = {10, TO_ONE_GROUP, 9, sum(9, 7)};
        for (int what = 0; what < 4; what++) {
            due("message", bus.message(1, 0, what), want[what]);
        }
        due("what 4", bus.message(1, 0, 4), -1);
        due("what -1", bus.message(1, 0, -1), -1);
        due("k 1", bus.message(1, 1, 0), -1);
        due("k -1", bus.message(1, -1, 0), -1);
        due("none such", bus.message(3, 0, 0), -1);
        due("none such", bus.message(-1, 0, 0), -1);
        for (int i = 0; i < 20; i++) {
            bus.send(2, 255, TO_ALL_GROUP, 1, i);
        }
        bus.pass(20);
        due("the 20th", bus.message(1, 19, 3), 18 + 255 * 35);
        due("the 21st", bus.message(1, 20, 3), -1);
        due("the 20th of another", bus.message(0, 19, 3), 19 + 255 * 35);
        bus.stop(1);
        due("stays when it is off", bus.message(1, 0, 0), 10);
        bus = fixed(4, 4);
        bus.send(0, 20, TO_ONE_GROUP, 600, 0x7FFFFFFF);
        bus.pass(2000);
        due("seed, i i and i / 256", bus.message(1, 0, 3), sum(600, 255));
    }

    private static void keptTroubles() {
        sentence("14");
        ClaimBus bus = fixed(4, 4, 4);
        due("none was told", bus.kept(1, 10, -1, 0), -1);
        bus.tell(0);
        bus.pass(1);
        due("told none", bus.kept(1, 10, -1, 0), 0);
        due("told none", bus.kept(1, 10, 0, 0), -1);
        due("not by another", bus.kept(1, 30, -1, 0), -1);
        due("not by itself", bus.kept(0, 10, -1, 0), -1);
        int[][] list = new int[10][];
        for (int i = 0; i < 10; i++) {
            list[i] = new int[] {524287 - 50000 * i, 31 - i, 127 - i};
            bus.trouble(0, list[i][0], list[i][1], list[i][2]);
        }
        bus.tell(0);
        bus.pass(310);
        for (int i = 0; i < 10; i++) {
            for (int what = 0; what < 3; what++) {
                due("trouble " + i, bus.kept(2, 10, i, what), list[i][what]);
            }
        }
        due("ten", bus.kept(2, 10, -1, 77), 10);
        due("k 10", bus.kept(2, 10, 10, 0), -1);
        due("k -2", bus.kept(2, 10, -2, 0), -1);
        due("what 3", bus.kept(2, 10, 0, 3), -1);
        due("what -1", bus.kept(2, 10, 0, -1), -1);
        due("none such", bus.kept(3, 10, 0, 0), -1);
        due("none such", bus.kept(-1, 10, 0, 0), -1);
        due("source -1", bus.kept(2, -1, -1, 0), -1);
        due("source 254", bus.kept(2, 254, -1, 0), -1);
        due("source 256", bus.kept(2, 256, -1, 0), -1);
        due("a message, too", bus.told(2, 4), 2);
        bus.lose(2, 1);
        bus.send(0, 255, 65226, 8, 0);
        bus.pass(1);
        due("lost", bus.kept(2, 10, -1, 0), 10);
        due("what came last", bus.kept(1, 10, -1, 0), 0);
        bus.stop(1);
        bus.start(1);
        bus.pass(300);
        due("gone when it was off", bus.kept(1, 10, -1, 0), -1);
    }

    /** Messages of that group that were put by send(). */
    private static void keptOfOddMessages() {
        sentence("14 (sent)");
        ClaimBus bus = fixed(4, 4);
        bus.send(0, 255, 65226, 8, 64);
        bus.pass(1);
        due("one", bus.kept(1, 10, -1, 0), 1);
        due("SPN", bus.kept(1, 10, 0, 0), 68 | 73 << 8 | (80 >> 5) << 16);
        due("FMI", bus.kept(1, 10, 0, 1), 80 & 31);
        due("OC", bus.kept(1, 10, 0, 2), 89);
        bus.send(0, 255, 65226, 1, 64);
        bus.pass(1);
        due("SPN of 255s", bus.kept(1, 10, 0, 0), 524287);
        due("FMI of 255s", bus.kept(1, 10, 0, 1), 31);
        due("OC has all eight bits", bus.kept(1, 10, 0, 2), 255);
        bus.send(0, 255, 65226, 8, 63);
        bus.pass(1);
        due("first byte 63", bus.kept(1, 10, -1, 0), 0);
        int[][] sizes = {{9, 1}, {10, 2}, {13, 2}, {14, 3}, {41, 9}, {42, 10}, {46, 10}, {100, 10}};
        for (int[] one : sizes) {
            bus.send(0, 255, 65226, one[0], 1);
            bus.pass(800);
            due("of a longer one, size " + one[0], bus.kept(1, 10, -1, 0), one[1]);
        }
        due("the last one", bus.kept(1, 10, 9, 2), 1 + 41 * 41 & 255);
        bus.send(0, 255, 65226 + 65536, 8, 64);
        bus.pass(1);
        due("another group", bus.kept(1, 10, -1, 0), 10);
        bus.node(0, 9, 0, false, 1);
        bus.start(2);
        bus.pass(300);
        bus.trouble(2, 5, 6, 7);
        bus.tell(2);
        bus.pass(1);
        due("of source 0", bus.kept(1, 0, -1, 0), 1);
        due("of source 0", bus.kept(1, 0, 0, 1), 6);
        due("of source 0 to another", bus.kept(0, 0, 0, 2), 7);
    }

    private static void carriedFrames() {
        sentence("15");
        ClaimBus bus = new ClaimBus();
        for (int what = -1; what < 5; what++) {
            due("none was", bus.carried(what), what == 3 ? -1 : 0);
        }
        bus.node(0x11223344, 0x55667788, 7, false, 1);
        bus.node(1, 1, 8, false, 1);
        bus.start(0);
        due("none was", bus.carried(3), -1);
        bus.pass(1);
        carried(bus, "claim", claim(7), 0x55667788, 0x11223344, 0);
        due("another number", bus.carried(4), 0);
        due("another number", bus.carried(-1), 0);
        bus.pass(300);
        carried(bus, "stays", claim(7), 0x55667788, 0x11223344, 0);
        bus.start(1);
        bus.pass(1);
        carried(bus, "the last one", claim(8), 1, 1, 1);
        bus.stop(1);
        carried(bus, "stays", claim(8), 1, 1, 1);
    }

    private static void soundness() {
        sentence("16");
        ClaimBus bus = fixed(4, 4, 4, 4);
        yes("sound", bus.sound());
        bus.send(0, 20, TO_ONE_GROUP, 100, 1);
        bus.send(1, 255, TO_ALL_GROUP, 100, 1);
        bus.send(2, 10, TO_ONE_GROUP, 100, 1);
        bus.send(3, 255, TO_ALL_GROUP, 100, 1);
        for (int i = 0; i < 8; i++) {
            bus.pass(100);
            yes("sound", bus.sound());
        }
        due("all came", bus.told(0, 4) + bus.told(1, 4) + bus.told(2, 4) + bus.told(3, 4), 8);
        bus = twins();
        due("two have one address", bus.told(0, 1) + bus.told(1, 1), 20);
        due("two have one address", bus.count(3), 2);
        yes("but a frame was lost", bus.sound());
        bus.stop(0);
        yes("and a node stopped", bus.sound());
    }

    private static void counts() {
        sentence("17");
        ClaimBus bus = new ClaimBus();
        due("another number", bus.count(4), -1);
        due("another number", bus.count(-1), -1);
        bus.node(0, 1, 10, false, 1);
        bus.node(0, 2, 10, false, 1);
        bus.node(0, 3, 30, false, 1);
        bus.start(0);
        bus.start(1);
        due("nodes", bus.count(0), 3);
        due("time", bus.count(1), 0);
        due("frames", bus.count(2), 0);
        due("have one", bus.count(3), 0);
        bus.pass(2);
        due("time", bus.count(1), 2);
        due("frames", bus.count(2), 2);
        due("have one", bus.count(3), 0);
        bus.pass(300);
        due("have one", bus.count(3), 1);
        bus.start(2);
        bus.pass(300);
        due("have one", bus.count(3), 2);
        due("frames", bus.count(2), 3);
        bus.stop(0);
        due("have one", bus.count(3), 1);
        due("nodes", bus.count(0), 3);
    }
}
