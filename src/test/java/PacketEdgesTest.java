/** Each sentence of the Terms about messages, packets, waits and transports that names an edge. */
public final class PacketEdgesTest extends Checks {
    private PacketEdgesTest() {
    }

    public static void main(String[] args) {
        toWhom();
        upToEightBytes();
        bytesBehindTheEnd();
        numbersOfPackets();
        fiftyApart();
        fiftyThoughTheBusIsBusy();
        heardByThoseThatHaveAnAddress();
        leastOfThree();
        clearedInTurn();
        expectedPackets();
        behindTheLastOne();
        waitsFor17();
        waitsBehindPackets();
        waitsFor19();
        whatWasPutStays();
        failsBy255();
        receiverWaits();
        packetsAtTheLastMoment();
        othersDoNotPutOff();
        thirdTime();
        threeTransports();
        placeThatIsFreeAgain();
        sameSourceAnew();
        sendsBeforeItGets();
        firstFreePlace();
        anewInItsOwnPlace();
        eachSourceApart();
        notTheExpectedOne();
        anewBy32();
        sevenHundredFifty();
        packetsAtTheLastMomentToAll();
        dropsWhatIsGot();
        heardBySourceAndGroup();
        toAllHearsNone();
        toAllAndToOneApart();
        lastOfEachSource();
        firstByte64();
        fourBytesEach();
        end("PacketEdgesTest");
    }

    /** Nodes 0 .. 7 with the addresses 10 .. 80 and windows of 16. */
    private static ClaimBus crowd() {
        return fixed(16, 16, 16, 16, 16, 16, 16, 16);
    }

    /** So many milliseconds in which nodes 0 .. 6 have no turn but for claims; begins now. */
    private static void crowdIsBusy(ClaimBus bus, int milliseconds) {
        busy(bus, 7, 8, milliseconds);
        bus.pass(milliseconds);
        due("the bus was busy all the time", bus.told(7, 2), 0);
    }

    private static void toWhom() {
        sentence("Terms: of format 0 .. 239 SPECIFIC is to whom, and the group is page, format, 0; of others it is to all");
        for (int page = 0; page < 4; page++) {
            for (int format : new int[] {0, 1, 239, 240, 241, 255}) {
                for (int specific : new int[] {10, 20, 30, 40, 255}) {
                    ClaimBus bus = fixed(1, 1, 1);
                    boolean toOne = format < 240;
                    int group = page << 16 | format << 8 | (toOne ? 0 : specific);
                    yes("send", bus.send(0, toOne ? specific : 255, group, 8, 1));
                    bus.pass(1);
                    due("specific", bus.carried(0), 7 << 26 | page << 24 | format << 16 | specific << 8 | 10);
                    for (int i = 0; i < 3; i++) {
                        boolean hears = i > 0 && (!toOne || specific == 255 || specific == 10 * (i + 1));
                        due(i + " hears " + group + " to " + specific, bus.told(i, 4), hears ? 1 : 0);
                        due("its group", bus.message(i, 0, 1), hears ? group : -1);
                    }
                }
            }
        }
    }

    private static void upToEightBytes() {
        sentence("Terms: up to eight bytes: one frame, 255 behind the bytes (it comes as eight)");
        for (int size = 1; size <= 9; size++) {
            ClaimBus bus = fixed(1, 1);
            bus.send(0, 20, TO_ONE_GROUP, size, 1);
            bus.pass(1);
            due("came at once, " + size, bus.told(1, 4), size < 9 ? 1 : 0);
            if (size < 9) {
                int[] bytes = {1, 2, 5, 10, 17, 26, 37, 50};
                int sum = 0;
                for (int i = 0; i < 8; i++) {
                    bytes[i] = i < size ? bytes[i] : 255;
                    sum += bytes[i] * (i + 1);
                }
                int first = four(bytes[0], bytes[1], bytes[2], bytes[3]);
                carried(bus, "size " + size, identifier(239, 20, 10), first,
                    four(bytes[4], bytes[5], bytes[6], bytes[7]), 0);
                due("eight", bus.message(1, 0, 2), 8);
                due("the bytes", bus.message(1, 0, 3), sum);
                due("DONE", bus.told(0, 3), 2);
            } else {
                due("16", bus.carried(1), four(16, 9, 0, 2));
                bus.pass(10);
                due("nine", bus.message(1, 0, 2), 9);
                due("its bytes alone", bus.message(1, 0, 3), sum(9, 1));
            }
        }
    }

    private static void bytesBehindTheEnd() {
        sentence("Terms: a number from 1 on, and seven bytes (255 behind the end)");
        for (int size = 9; size <= 15; size++) {
            ClaimBus bus = fixed(16, 16);
            bus.send(0, 20, TO_ONE_GROUP, size, 0);
            bus.pass(3);
            carried(bus, "the first", identifier(235, 20, 10), four(1, 0, 1, 4), four(9, 16, 25, 36), 0);
            bus.pass(1);
            int[] bytes = new int[8];
            for (int i = 0; i < 8; i++) {
                bytes[i] = i == 0 ? 2 : 6 + i < size ? (6 + i) * (6 + i) & 255 : 255;
            }
            carried(bus, "the second", identifier(235, 20, 10), four(bytes[0], bytes[1], bytes[2], bytes[3]),
                four(bytes[4], bytes[5], bytes[6], bytes[7]), 0);
            bus.pass(1);
            if (size == 15) {
                carried(bus, "the third", identifier(235, 20, 10), four(3, 196, 255, 255), -1, 0);
                bus.pass(1);
            }
            due("19", bus.carried(1), four(19, size, 0, size < 15 ? 2 : 3));
            due("the bytes", bus.message(1, 0, 3), sum(size, 0));
        }
    }

    private static void numbersOfPackets() {
        int[][] sizes = {{9, 2}, {14, 2}, {15, 3}, {21, 3}, {22, 4}, {112, 16}, {113, 17}, {255, 37}, {256, 37}, {1778, 254}, {1779, 255}, {1785, 255}};
        for (int[] one : sizes) {
            ClaimBus bus = fixed(16, 16);
            bus.send(0, 20, TO_ONE_GROUP, one[0], 3);
            bus.pass(1);
            due("16", bus.carried(1), four(16, one[0] & 255, one[0] >> 8, one[1]));
            bus.pass(one[1] + (one[1] + 15) / 16);
            due("the last packet", bus.carried(1) & 255, one[1]);
            due("came", bus.message(1, 0, 3), sum(one[0], 3));
            bus.pass(1);
            carried(bus, "19", identifier(236, 10, 20), four(19, one[0] & 255, one[0] >> 8, one[1]), four(255, 0, 239, 0), 1);
            due("DONE", bus.told(0, 3), 2);
            bus.send(0, 255, TO_ALL_GROUP, one[0], 3);
            bus.pass(1);
            due("32", bus.carried(1), four(32, one[0] & 255, one[0] >> 8, one[1]));
            pass(bus, 50 * one[1] - 2);
            due("under way", bus.told(0, 3), 1);
            due("not there yet", bus.told(1, 4), 1);
            bus.pass(1);
            due("the last packet", bus.carried(1) & 255, one[1]);
            due("DONE", bus.told(0, 3), 2);
            due("came", bus.message(1, 1, 3), sum(one[0], 3));
            yes("as they were sent", bus.sound());
        }
    }

    private static void fiftyApart() {
        sentence("Terms: then a packet each 50 milliseconds (the first one 50 behind the control frame being put)");
        ClaimBus bus = fixed(1, 1);
        bus.send(0, 255, TO_ALL_GROUP, 28, 1);
        int carried = bus.count(2) + 1;
        bus.pass(49);
        for (int packet = 1; packet <= 4; packet++) {
            due("not before", bus.count(2), carried);
            due("under way", bus.told(0, 3), 1);
            bus.pass(1);
            carried++;
            due("one packet", bus.count(2), carried);
            due("its number", bus.carried(1) & 255, packet);
            due("DONE behind the last one", bus.told(0, 3), packet == 4 ? 2 : 1);
            if (packet < 4) {
                bus.pass(49);
            }
        }
        bus.pass(1000);
        due("no more", bus.count(2), carried);
    }

    /** The control frame is carried late, and packets are put though those before wait. */
    private static void fiftyThoughTheBusIsBusy() {
        ClaimBus bus = crowd();
        busy(bus, 7, 8, 160);
        bus.pass(4);
        bus.send(0, 255, TO_ALL_GROUP, 14, 1);
        bus.pass(49);
        due("49 behind, the control frame waits", bus.told(0, 2), 1);
        bus.pass(1);
        due("50 behind, a packet, too", bus.told(0, 2), 2);
        bus.pass(49);
        due("99 behind", bus.told(0, 3), 1);
        bus.pass(1);
        due("100 behind: DONE, being put", bus.told(0, 3), 2);
        due("all three wait", bus.told(0, 2), 3);
        bus.pass(56);
        due("all three wait", bus.told(0, 2), 3);
        due("nothing is collected", bus.told(1, 5), 0);
        bus.pass(3);
        due("came", bus.message(1, 0, 3), sum(14, 1));
        due("none waits", bus.told(0, 2), 0);
    }

    private static void heardByThoseThatHaveAnAddress() {
        sentence("Terms: heard by nodes that HAVE an address alone (those to one by the one that has it)");
        ClaimBus bus = fixed(4, 4, 4);
        bus.node(0, 4, 40, false, 4);
        bus.node(0, 5, 10, false, 4);
        bus.start(4);
        bus.pass(10);
        bus.start(3);
        bus.pass(5);
        bus.send(0, 40, TO_ONE_GROUP, 8, 1);
        bus.send(0, 40, TO_ONE_GROUP, 9, 1);
        bus.send(1, 255, TO_ALL_GROUP, 8, 1);
        bus.send(1, 255, TO_ALL_GROUP, 9, 1);
        bus.send(2, 10, TO_ONE_GROUP, 9, 1);
        bus.pass(200);
        int[] came = {3, 0, 2, 0, 0};
        for (int i = 0; i < 5; i++) {
            due("messages of node " + i, bus.told(i, 4), came[i]);
        }
        due("none cleared it", bus.told(0, 3), 1);
        due("claiming, gets nothing", bus.told(3, 5), 0);
        bus.pass(1049);
        due("under way", bus.told(0, 3), 1);
        bus.pass(1);
        due("FAILED", bus.told(0, 3), 3);
        due("by now it has its address", bus.told(3, 0), 2);
        bus.send(0, 40, TO_ONE_GROUP, 9, 1);
        bus.pass(10);
        due("and hears", bus.told(3, 4), 1);
    }

    private static void leastOfThree() {
        sentence("Terms: the least of its own WINDOW, the one told, and what is left");
        int[][] cases = {{16, 16, 1785, 16}, {15, 16, 1785, 15}, {16, 15, 1785, 15}, {1, 16, 1785, 1}, {16, 1, 1785, 1},
            {1, 1, 9, 1}, {16, 16, 9, 2}, {2, 2, 9, 2}, {3, 3, 9, 2}, {2, 3, 21, 2}, {3, 2, 21, 2}, {16, 16, 105, 15},
            {16, 16, 112, 16}, {16, 16, 113, 16}};
        for (int[] one : cases) {
            ClaimBus bus = fixed(one[0], one[1]);
            bus.send(0, 20, TO_ONE_GROUP, one[2], 1);
            bus.pass(1);
            due("the window of the one that sends", bus.carried(2) & 255, one[0]);
            bus.pass(1);
            carried(bus, "17", identifier(236, 10, 20), four(17, one[3], 1, 255), four(255, 0, 239, 0), 1);
            due("packets at once", bus.told(0, 2), one[3]);
            bus.pass(one[3]);
            due("they are carried", bus.carried(1) & 255, one[3]);
            bus.pass(1);
            int left = (one[2] + 6) / 7 - one[3];
            int next = Math.min(left, Math.min(one[0], one[1]));
            due("19 or 17 again", bus.carried(1) & 0xFFFFFF, left == 0 ? 19 | one[2] << 8 : 17 | next << 8 | one[3] + 1 << 16);
        }
    }

    private static void clearedInTurn() {
        sentence("Terms: when all are there that were cleared: 19, if that is all (the message has come), else 17 again");
        ClaimBus bus = fixed(3, 4);
        bus.send(0, 20, TO_ONE_GROUP, 49, 1);
        bus.pass(1);
        int[][] windows = {{3, 1}, {3, 4}, {1, 7}};
        for (int[] one : windows) {
            bus.pass(1);
            due("17", bus.carried(1), four(17, one[0], one[1], 255));
            for (int i = 0; i < one[0]; i++) {
                due("packets wait", bus.told(0, 2), one[0] - i);
                due("no answer waits", bus.told(1, 2), 0);
                due("not come", bus.told(1, 4), 0);
                bus.pass(1);
            }
            due("an answer waits", bus.told(1, 2), 1);
        }
        due("come when the last one is there", bus.told(1, 4), 1);
        due("gets no more", bus.told(1, 5), 0);
        due("under way until 19", bus.told(0, 3), 1);
        bus.pass(1);
        due("DONE", bus.told(0, 3), 2);
    }

    private static void expectedPackets() {
        sentence("Terms: a packet with the number that it expects is taken; others are not");
        ClaimBus bus = fixed(4, 4);
        bus.send(0, 20, TO_ONE_GROUP, 28, 1);
        bus.pass(3);
        bus.lose(1, 1);
        bus.pass(1);
        due("the second is lost", bus.told(1, 6), 1);
        bus.pass(2);
        due("3 and 4 are not taken", bus.told(1, 2), 0);
        bus.pass(1246);
        due("the sender FAILED meanwhile", bus.told(0, 3), 3);
        due("nothing came", bus.told(1, 4), 0);
    }

    /** A 17 of the transport before clears more than the message has: numbers and 255s. */
    private static void behindTheLastOne() {
        sentence("Terms: also those behind the last one: their numbers and 255s");
        ClaimBus bus = fixed(16, 16);
        bus.send(0, 20, TO_ONE_GROUP, 112, 1);
        bus.pass(1);
        bus.stop(0);
        bus.start(0);
        bus.pass(1249);
        bus.lose(1, 1);
        bus.send(0, 20, TO_ONE_GROUP, 9, 9);
        bus.pass(1);
        due("17 of the old one", bus.carried(1), four(17, 16, 1, 255));
        due("it was put before the new 16 was carried", bus.told(1, 6), 0);
        due("the new 16 and sixteen packets", bus.told(0, 2), 17);
        bus.pass(1);
        due("the new 16 is lost", bus.told(1, 6), 1);
        bus.pass(2);
        carried(bus, "the last one", identifier(235, 20, 10), four(2, 58, 73, 255), -1, 0);
        for (int number = 3; number <= 16; number++) {
            bus.pass(1);
            carried(bus, "behind it", identifier(235, 20, 10), four(number, 255, 255, 255), -1, 0);
        }
        due("the old one takes them: all are there", bus.told(1, 4), 1);
        due("with the size that was told", bus.message(1, 0, 2), 112);
    }

    private static void waitsFor17() {
        sentence("Terms: if it waits 1,250 for anything (it waits from the time on at which it put the last of these frames)");
        for (int late = 0; late < 2; late++) {
            ClaimBus bus = crowd();
            bus.send(0, 20, TO_ONE_GROUP, 200, 1);
            bus.pass(1);
            crowdIsBusy(bus, 1247 + late);
            due("under way", bus.told(0, 3), 1);
            bus.pass(1);
            due("the 17 came", bus.carried(1), four(17, 16, 1, 255));
            due("1,249 or 1,250 behind", bus.count(1), 300 + 1249 + late);
            due("under way, or FAILED", bus.told(0, 3), late == 0 ? 1 : 3);
            due("packets, or 255", bus.told(0, 2), late == 0 ? 16 : 1);
            bus.pass(1 + late);
            due("255 (behind a 17 again), if it FAILED", bus.carried(1), late == 0 ? four(1, 1, 2, 5) : four(255, 3, 255, 255));
            due("gets, or dropped it", bus.told(1, 5), late == 0 ? 1 : 0);
        }
    }

    private static void waitsBehindPackets() {
        sentence("Terms: and waits again, anew");
        for (int late = 0; late < 2; late++) {
            ClaimBus bus = crowd();
            bus.send(0, 20, TO_ONE_GROUP, 113, 1);
            bus.pass(18);
            due("the sixteenth packet", bus.carried(1) & 255, 16);
            due("the next 17", bus.told(1, 2), 1);
            crowdIsBusy(bus, 1232 + late);
            due("not 1,250 behind the 16", bus.told(0, 3), 1);
            bus.pass(1);
            due("the 17 comes", bus.carried(1), four(17, 1, 17, 255));
            due("1,249 or 1,250 behind the packets being put", bus.count(1), 302 + 1249 + late);
            due("under way, or FAILED", bus.told(0, 3), late == 0 ? 1 : 3);
            bus.pass(1);
            due("the last packet, or 255", bus.carried(1) & 255, late == 0 ? 17 : 255);
            bus.pass(1);
            due("DONE, or FAILED", bus.told(0, 3), late == 0 ? 2 : 3);
        }
    }

    private static void waitsFor19() {
        sentence("Terms: until 19: DONE");
        for (int late = 0; late < 2; late++) {
            ClaimBus bus = crowd();
            bus.send(0, 20, TO_ONE_GROUP, 9, 1);
            bus.pass(4);
            due("the message has come", bus.told(1, 4), 1);
            crowdIsBusy(bus, 1246 + late);
            due("under way", bus.told(0, 3), 1);
            bus.pass(1);
            due("19, 1,249 or 1,250 behind the packets being put", bus.carried(1), four(19, 9, 0, 2));
            due("DONE, or FAILED", bus.told(0, 3), late == 0 ? 2 : 3);
            bus.pass(1);
            due("255, if it FAILED", bus.carried(1) & 255, late == 0 ? 19 : 255);
        }
    }

    private static void whatWasPutStays() {
        sentence("Terms: FAILED (what was put before waits on: only a lost address or stop() drops it)");
        ClaimBus bus = crowd();
        bus.send(0, 20, TO_ONE_GROUP, 200, 1);
        bus.pass(2);
        due("sixteen packets were put", bus.told(0, 2), 16);
        crowdIsBusy(bus, 1250);
        due("FAILED", bus.told(0, 3), 3);
        due("the packets and 255", bus.told(0, 2), 17);
        yes("the next one", bus.send(0, 20, TO_ONE_GROUP, 9, 7));
        due("behind them", bus.told(0, 2), 18);
        for (int packet = 1; packet <= 16; packet++) {
            bus.pass(1);
            due("a packet", bus.carried(1) & 255, packet);
        }
        bus.pass(40);
        due("the next one has come", bus.message(1, 0, 3), sum(9, 7));
        due("it alone", bus.told(1, 4), 1);
        due("DONE", bus.told(0, 3), 2);
        yes("none was mixed", bus.sound());
    }

    private static void failsBy255() {
        sentence("Terms: 255, why, 255, 255, 255: FAILED");
        ClaimBus bus = fixed(4, 4, 4, 4, 4);
        for (int i = 0; i < 4; i++) {
            bus.send(i, 50, TO_ONE_GROUP, 1785, 1);
            bus.lose(i, i < 3 ? 50 : 0);
        }
        bus.pass(7);
        due("the fourth 16", bus.carried(0), identifier(236, 50, 40));
        due("under way", bus.told(3, 3), 1);
        bus.pass(1);
        carried(bus, "255", identifier(236, 40, 50), four(255, 2, 255, 255), four(255, 0, 239, 0), 4);
        due("FAILED", bus.told(3, 3), 3);
        for (int i = 0; i < 3; i++) {
            due("the others are under way", bus.told(i, 3), 1);
        }
        due("and are got", bus.told(4, 5), 3);
        yes("it may send anew", bus.send(3, 30, TO_ONE_GROUP, 9, 1));
    }

    private static void receiverWaits() {
        sentence("Terms: 1,250 behind the last one of these, or of packets taken: else 17 again");
        ClaimBus bus = fixed(4, 4);
        bus.send(0, 20, TO_ONE_GROUP, 100, 1);
        bus.pass(1);
        bus.stop(0);
        bus.pass(1249);
        due("1,249 behind the 17 being put", bus.count(2), 4);
        bus.pass(1);
        carried(bus, "1,250 behind", identifier(236, 10, 20), four(17, 4, 1, 255), four(255, 0, 239, 0), 1);
        for (int taken = 1; taken < 4; taken++) {
            bus = fixed(4, 4);
            bus.send(0, 20, TO_ONE_GROUP, 100, 1);
            bus.pass(2 + taken);
            bus.stop(0);
            bus.pass(1249);
            due("1,249 behind packet " + taken, bus.carried(1) & 255, taken);
            bus.pass(1);
            due("17 from the next one on", bus.carried(1), four(17, 4, 1 + taken, 255));
        }
        bus = fixed(4, 4);
        bus.send(0, 20, TO_ONE_GROUP, 21, 1);
        bus.pass(3);
        bus.stop(0);
        bus.pass(1250);
        due("what is left", bus.carried(1), four(17, 2, 2, 255));
    }

    private static void packetsAtTheLastMoment() {
        for (int late = 0; late < 2; late++) {
            ClaimBus bus = crowd();
            bus.send(0, 20, TO_ONE_GROUP, 100, 1);
            bus.pass(2);
            crowdIsBusy(bus, 1247 + late);
            bus.pass(1);
            due("packet 1", bus.carried(1) & 255, 1);
            due("1,249 or 1,250 behind the 17 being put", bus.count(1), 301 + 1249 + late);
            due("17 again, if it is late", bus.told(1, 2), late);
            bus.pass(1);
            due("taken all the same", bus.told(1, 2), late);
            bus.pass(13);
            due("the fifteenth: come", bus.told(1, 4), 1);
        }
    }

    /** Packets that are not taken do not put the wait off: the 17 comes just before the sender gives up. */
    private static void othersDoNotPutOff() {
        ClaimBus bus = fixed(3, 3);
        bus.send(0, 20, TO_ONE_GROUP, 21, 1);
        bus.pass(2);
        bus.lose(1, 1);
        bus.pass(3);
        due("packet 1 is lost, 2 and 3 are not taken", bus.told(1, 6), 1);
        bus.pass(1245);
        due("nothing for so long", bus.carried(1) & 255, 3);
        bus.pass(1);
        due("17 again, 1,250 behind the first", bus.carried(1), four(17, 3, 1, 255));
        bus.pass(4);
        due("all came now", bus.message(1, 0, 3), sum(21, 1));
        due("DONE", bus.told(0, 3), 2);
    }

    private static void thirdTime() {
        sentence("Terms: the third time it puts 255, why 3, and drops it");
        ClaimBus bus = fixed(4, 4);
        bus.send(0, 20, TO_ONE_GROUP, 100, 1);
        bus.pass(1);
        bus.stop(0);
        int[] first = {four(17, 4, 1, 255), four(17, 4, 1, 255), four(255, 3, 255, 255)};
        for (int time = 0; time < 3; time++) {
            bus.pass(1249);
            due("1,249 behind: gets", bus.told(1, 5), 1);
            due("not before", bus.count(2), 4 + time);
            bus.pass(1);
            carried(bus, "time " + time, identifier(236, 10, 20), first[time], four(255, 0, 239, 0), 1);
            due("gets", bus.told(1, 5), time < 2 ? 1 : 0);
        }
        bus.pass(5000);
        due("no fourth", bus.count(2), 7);
        due("nothing came", bus.told(1, 4), 0);
        thirdTimeOfOneThatGoesOn();
    }

    /** Each second packet is lost; the 17s come just before the sender gives up. */
    private static void thirdTimeOfOneThatGoesOn() {
        ClaimBus bus = fixed(1, 1);
        bus.send(0, 20, TO_ONE_GROUP, 50, 1);
        bus.pass(2);
        for (int time = 0; time < 3; time++) {
            due("17 from the next one on", bus.carried(1), four(17, 1, 1 + time, 255));
            bus.lose(1, 1);
            bus.pass(1);
            due("the packet is lost", bus.told(1, 6), time + 1);
            bus.pass(1247);
            due("waits", bus.carried(1) & 255, 1 + time);
            due("under way", bus.told(0, 3), 1);
            if (time < 2) {
                bus.pass(2);
                due("taken, the second time it was put", bus.carried(1) & 255, 1 + time);
                bus.pass(1);
            }
        }
        bus.pass(1);
        due("the third time of all", bus.carried(1), four(255, 3, 255, 255));
        due("dropped", bus.told(1, 5), 0);
        due("FAILED", bus.told(0, 3), 3);
    }

    /** Node 4 (address 50) gets from 0, 1, 2, which are off then: three transports, with all places in use. */
    private static ClaimBus threeInUse() {
        ClaimBus bus = fixed(4, 4, 4, 4, 4);
        for (int i = 0; i < 3; i++) {
            due("before", bus.told(4, 5), i);
            bus.send(i, 50, TO_ONE_GROUP, 100, 1);
            bus.pass(2);
            bus.stop(i);
        }
        due("three", bus.told(4, 5), 3);
        bus.pass(10);
        return bus;
    }

    private static void threeTransports() {
        sentence("Terms: has at most three such transports, else with three it puts 255, why 2");
        ClaimBus bus = threeInUse();
        bus.send(3, 50, 3 << 16, 9, 1);
        bus.pass(1);
        due("three still", bus.told(4, 5), 3);
        due("its answer", bus.told(4, 2), 1);
        bus.pass(1);
        carried(bus, "255, why 2", identifier(236, 40, 50), four(255, 2, 255, 255), four(255, 0, 0, 3), 4);
        due("FAILED", bus.told(3, 3), 3);
        bus.send(3, 255, TO_ALL_GROUP, 9, 1);
        bus.pass(1);
        due("what it collects is none of the three", bus.told(4, 5), 4);
        bus.pass(100);
        due("and comes", bus.told(4, 4), 1);
        bus.send(3, 50, TO_ONE_GROUP, 8, 1);
        bus.pass(1);
        due("one frame comes", bus.told(4, 4), 2);
        bus = fixed(4, 4, 4);
        bus.send(0, 20, TO_ONE_GROUP, 100, 1);
        bus.send(2, 20, TO_ONE_GROUP, 100, 1);
        bus.pass(200);
        due("two at once come", bus.told(1, 4), 2);
    }

    private static void placeThatIsFreeAgain() {
        ClaimBus bus = threeInUse();
        bus.pass(3734);
        due("about to be dropped", bus.told(4, 5), 3);
        bus.pass(1);
        due("the first is dropped", bus.told(4, 5), 2);
        bus.send(3, 50, TO_ONE_GROUP, 9, 1);
        bus.pass(1);
        due("three again", bus.told(4, 5), 3);
        due("so there is a place", bus.carried(1) & 255, 16);
        bus.pass(10);
        due("come", bus.told(4, 4), 1);
        due("DONE", bus.told(3, 3), 2);
    }

    private static void sameSourceAnew() {
        sentence("Terms: one of each source: another 16 of the same source begins anew");
        ClaimBus bus = threeInUse();
        bus.start(1);
        bus.pass(260);
        bus.send(1, 50, 2 << 16, 16, 5);
        bus.pass(1);
        due("three still", bus.told(4, 5), 3);
        bus.pass(1);
        carried(bus, "17, from 1 on, of the new group", identifier(236, 20, 50), four(17, 3, 1, 255), four(255, 0, 0, 2), 4);
        bus.pass(4);
        due("come", bus.message(4, 0, 3), sum(16, 5));
        due("its group", bus.message(4, 0, 1), 2 << 16);
        due("the old one is gone with it", bus.told(4, 5), 2);
        due("19", bus.carried(1), four(19, 16, 0, 3));
        bus = fixed(4, 4);
        bus.send(0, 20, TO_ONE_GROUP, 100, 1);
        bus.pass(4);
        bus.stop(0);
        bus.start(0);
        bus.pass(260);
        bus.send(0, 20, TO_ONE_GROUP, 100, 7);
        bus.pass(2);
        due("two packets were taken: from 1 on all the same", bus.carried(1), four(17, 4, 1, 255));
        bus.pass(30);
        due("the new bytes alone", bus.message(1, 0, 3), sum(100, 7));
        due("one message", bus.told(1, 4), 1);
        waitsOfOneThatBeganAnew();
    }

    private static void waitsOfOneThatBeganAnew() {
        ClaimBus bus = fixed(4, 4);
        bus.send(0, 20, TO_ONE_GROUP, 100, 1);
        bus.pass(1);
        bus.stop(0);
        bus.pass(2501);
        due("17 twice again", bus.count(2), 2 + 2 + 2);
        bus.start(0);
        bus.pass(251);
        bus.send(0, 20, TO_ONE_GROUP, 100, 1);
        bus.pass(1);
        bus.stop(0);
        for (int time = 0; time < 3; time++) {
            bus.pass(1250);
            due("the third time of the new one", bus.carried(1) & 255, time < 2 ? 17 : 255);
        }
    }

    /** Both are due in one millisecond; the receiver of the 16 is none, the sender of the other is off. */
    private static void sendsBeforeItGets() {
        sentence("Terms: of one node: what it sends, then the transports that it gets");
        ClaimBus bus = fixed(4, 4);
        bus.send(1, 10, TO_ONE_GROUP, 100, 1);
        bus.pass(1);
        bus.stop(1);
        bus.send(0, 200, TO_ONE_GROUP, 100, 1);
        bus.pass(1249);
        due("nothing yet", bus.told(0, 3), 1);
        bus.pass(1);
        carried(bus, "255 of what it sends", identifier(236, 200, 10), four(255, 3, 255, 255), four(255, 0, 239, 0), 0);
        due("one more", bus.told(0, 2), 1);
        bus.pass(1);
        carried(bus, "17 of what it gets", identifier(236, 20, 10), four(17, 4, 1, 255), four(255, 0, 239, 0), 0);
        bus = fixed(4, 4);
        bus.send(1, 10, TO_ONE_GROUP, 100, 1);
        bus.pass(1);
        bus.stop(1);
        bus.pass(1200);
        bus.send(0, 255, TO_ALL_GROUP, 9, 1);
        bus.pass(50);
        due("a packet to all", bus.carried(0), identifier(235, 255, 10));
        bus.pass(1);
        due("17", bus.carried(1) & 255, 17);
    }

    /**
     * Node 3 gets from 0 and 1; 0 ends, and 2 comes in its place in the millisecond in which 1 speaks again:
     * from then on both are due together.
     */
    private static void firstFreePlace() {
        sentence("Terms: by their three places: a new one takes the first that is free");
        ClaimBus bus = places();
        bus.pass(50);
        due("the first one has come", bus.told(3, 4), 1);
        due("the second one is left", bus.told(3, 5), 1);
        bus.pass(1199);
        bus.send(2, 5, TO_ONE_GROUP, 100, 1);
        bus.pass(1);
        due("16", bus.carried(0), identifier(236, 5, 30));
        due("17 to both", bus.told(3, 2), 2);
        bus.stop(2);
        bus.pass(1249);
        due("two", bus.told(3, 5), 2);
        due("nothing waits", bus.told(3, 2), 0);
        bus.pass(1);
        due("the first place", bus.carried(0), identifier(236, 30, 5));
        due("another one behind it", bus.told(3, 2), 1);
        bus.pass(1);
        due("the second place", bus.carried(0), identifier(236, 20, 5));
    }

    /** Node 3 (address 5) gets from 0 (address 10), then from 1 (address 20), which is off. */
    private static ClaimBus places() {
        ClaimBus bus = new ClaimBus();
        int[] addresses = {10, 20, 30, 5};
        for (int i = 0; i < 4; i++) {
            bus.node(0, i + 1, addresses[i], false, 4);
            bus.start(i);
        }
        bus.pass(300);
        bus.send(0, 5, TO_ONE_GROUP, 20, 1);
        bus.pass(1);
        bus.send(1, 5, TO_ONE_GROUP, 20, 1);
        bus.pass(1);
        bus.stop(1);
        due("two", bus.told(3, 5), 2);
        return bus;
    }

    private static void anewInItsOwnPlace() {
        sentence("Terms: by their three places: one that begins anew stays in its own");
        ClaimBus bus = places();
        bus.stop(0);
        bus.start(0);
        bus.pass(1249);
        bus.send(0, 5, TO_ONE_GROUP, 100, 1);
        bus.pass(1);
        due("16", bus.carried(0), identifier(236, 5, 10));
        due("the same two", bus.told(3, 5), 2);
        bus.stop(0);
        bus.pass(1249);
        due("nothing waits", bus.told(3, 2), 0);
        bus.pass(1);
        due("the first place", bus.carried(0), identifier(236, 10, 5));
        bus.pass(1);
        due("the second place", bus.carried(0), identifier(236, 20, 5));
        anewThoughAnotherPlaceIsFree();
    }

    /** 0 ends; 1 begins anew in the second place, and 2 comes in the first one. */
    private static void anewThoughAnotherPlaceIsFree() {
        ClaimBus bus = places();
        bus.start(1);
        bus.pass(300);
        due("the first one has come", bus.told(3, 4), 1);
        bus.send(1, 5, TO_ONE_GROUP, 100, 1);
        bus.pass(1);
        due("16", bus.carried(0), identifier(236, 5, 20));
        bus.stop(1);
        bus.pass(1249);
        bus.send(2, 5, TO_ONE_GROUP, 100, 1);
        bus.pass(1);
        due("16", bus.carried(0), identifier(236, 5, 30));
        bus.stop(2);
        bus.pass(1249);
        due("nothing waits", bus.told(3, 2), 0);
        bus.pass(1);
        due("the first place", bus.carried(0), identifier(236, 30, 5));
        bus.pass(1);
        due("the second place", bus.carried(0), identifier(236, 20, 5));
    }

    private static void eachSourceApart() {
        sentence("Terms: what comes to all is collected for each source apart");
        ClaimBus bus = crowd();
        for (int i = 0; i < 7; i++) {
            bus.send(i, 255, TO_ALL_GROUP, 9 + 7 * i, 3 * i);
        }
        bus.pass(7);
        due("all seven, more than three", bus.told(7, 5), 7);
        for (int i = 0; i < 7; i++) {
            due("not its own", bus.told(i, 5), 6);
        }
        bus.pass(500);
        due("all came", bus.told(7, 4), 7);
        for (int i = 0; i < 7; i++) {
            due("in the order of their ends", bus.message(7, i, 0), 10 + 10 * i);
            due("its bytes", bus.message(7, i, 3), sum(9 + 7 * i, 3 * i));
        }
        due("none is left", bus.told(7, 5), 0);
        bus = crowd();
        for (int i = 1; i < 7; i++) {
            bus.send(i, 255, TO_ALL_GROUP, 9, i);
        }
        bus.pass(6);
        bus.send(0, 80, TO_ONE_GROUP, 9, 1);
        bus.pass(1);
        due("six collected are none of the three that it gets at most", bus.told(7, 5), 7);
        bus.pass(4);
        due("come", bus.message(7, 0, 0), 10);
    }

    private static void notTheExpectedOne() {
        sentence("Terms: a packet that is not the expected one drops it");
        for (int lost = 1; lost <= 4; lost++) {
            ClaimBus bus = fixed(1, 1, 1);
            bus.send(0, 255, TO_ALL_GROUP, 28, 1);
            bus.pass(50 * lost - 1);
            bus.lose(1, 1);
            bus.pass(1);
            due("packet " + lost + " is lost", bus.told(1, 6), 1);
            bus.pass(49);
            due("collects still", bus.told(1, 5), 1);
            bus.pass(1);
            due("the next one drops it", bus.told(1, 5), lost < 4 ? 0 : 1);
            bus.pass(200);
            due("it does not come", bus.told(1, 4), 0);
            due("but to the other", bus.told(2, 4), 1);
        }
        lesserNumber();
    }

    /** Nodes 0 and 1 have one address: their packets come as from one source. */
    private static void lesserNumber() {
        ClaimBus bus = twins();
        bus.node(0, 3, 30, false, 1);
        bus.start(2);
        bus.pass(300);
        bus.send(0, 255, TO_ALL_GROUP, 28, 1);
        bus.pass(20);
        bus.send(1, 255, TO_ALL_GROUP, 28, 2);
        bus.pass(1);
        due("the new 32 began anew", bus.told(2, 5), 1);
        bus.pass(29);
        due("packet 1 is taken", bus.told(2, 5), 1);
        bus.pass(20);
        due("packet 1 once more drops it", bus.told(2, 5), 0);
        bus.pass(500);
        due("nothing comes", bus.told(2, 4), 0);
    }

    private static void anewBy32() {
        sentence("Terms: a new 32 begins anew");
        ClaimBus bus = fixed(1, 1);
        bus.send(0, 255, TO_ALL_GROUP, 28, 1);
        bus.pass(100);
        bus.stop(0);
        bus.start(0);
        bus.pass(251);
        bus.send(0, 255, 65281, 15, 2);
        bus.pass(1);
        due("one of that source", bus.told(1, 5), 1);
        bus.pass(49);
        due("packet 1 is the expected one", bus.told(1, 5), 1);
        bus.pass(100);
        due("come", bus.message(1, 0, 3), sum(15, 2));
        due("its group", bus.message(1, 0, 1), 65281);
        bus = fixed(1, 1);
        bus.send(0, 255, TO_ALL_GROUP, 28, 1);
        bus.pass(50);
        bus.stop(0);
        bus.start(0);
        bus.pass(740);
        bus.send(0, 255, TO_ALL_GROUP, 28, 1);
        bus.pass(49);
        due("750 from the new 32 on", bus.told(1, 5), 1);
    }

    private static void sevenHundredFifty() {
        sentence("Terms: or 750 without one, drops it");
        for (int packets = 0; packets < 4; packets++) {
            ClaimBus bus = fixed(1, 1);
            bus.send(0, 255, TO_ALL_GROUP, 28, 1);
            bus.pass(packets == 0 ? 1 : 50 * packets);
            bus.stop(0);
            bus.pass(749);
            due("749 behind packet " + packets, bus.told(1, 5), 1);
            bus.pass(1);
            due("750 behind packet " + packets, bus.told(1, 5), 0);
            due("and puts nothing", bus.told(1, 2), 0);
        }
    }

    private static void packetsAtTheLastMomentToAll() {
        for (int packets = 0; packets < 2; packets++) {
            for (int late = 0; late < 2; late++) {
                ClaimBus bus = crowd();
                bus.send(0, 255, TO_ALL_GROUP, 14, 1);
                int from = packets == 0 ? 1 : 50;
                bus.pass(from);
                crowdIsBusy(bus, 748 + late);
                due("749 or less", bus.told(1, 5), 1);
                bus.pass(1);
                due("the next packet", bus.carried(1) & 255, packets + 1);
                due("749 or 750 behind", bus.count(1), 300 + from + 749 + late);
                bus.pass(1);
                due("come, or dropped", bus.told(1, 4), 1 - late);
                due("no more of it", bus.told(1, 5), 0);
            }
        }
    }

    private static void dropsWhatIsGot() {
        sentence("Terms: 255 with that group drops what is got from its source");
        ClaimBus bus = fixed(4, 4, 4);
        bus.send(0, 30, TO_ONE_GROUP, 100, 1);
        bus.pass(1);
        bus.send(1, 30, TO_ONE_GROUP, 100, 1);
        bus.lose(0, 50);
        bus.pass(2);
        bus.stop(1);
        due("gets from both", bus.told(2, 5), 2);
        bus.pass(1246);
        due("the first is about to FAIL", bus.told(0, 3), 1);
        due("gets from both", bus.told(2, 5), 2);
        int carried = bus.count(2);
        bus.pass(1);
        due("255", bus.carried(1), four(255, 3, 255, 255));
        due("one more frame", bus.count(2), carried + 1);
        due("that of another source stays", bus.told(2, 5), 1);
        bus.pass(3);
        due("it speaks to the other alone", bus.carried(0), identifier(236, 20, 30));
        due("no more of the first", bus.told(2, 2), 0);
        staysWhatIsCollected();
    }

    /** Node 4 has no place for what node 3 sends; 3 collects what 4 sends to all in that group. */
    private static void staysWhatIsCollected() {
        ClaimBus bus = threeInUse();
        bus.send(4, 255, TO_ONE_GROUP, 40, 1);
        bus.pass(1);
        due("collects", bus.told(3, 5), 1);
        bus.send(3, 50, TO_ONE_GROUP, 9, 1);
        bus.pass(2);
        carried(bus, "255", identifier(236, 40, 50), four(255, 2, 255, 255), four(255, 0, 239, 0), 4);
        due("FAILED", bus.told(3, 3), 3);
        due("what is collected is not what is got", bus.told(3, 5), 1);
        bus.pass(300);
        due("it comes", bus.message(3, 0, 3), sum(40, 1));
    }

    private static void heardBySourceAndGroup() {
        sentence("Terms: 17, 19, 255 are heard by the one that sends to their source in that group");
        for (int turn = 0; turn < 2; turn++) {
            ClaimBus bus = fixed(4, 4);
            bus.send(0, 20, TO_ONE_GROUP, 100, 1);
            bus.pass(1);
            bus.stop(0);
            bus.start(0);
            bus.pass(1248);
            bus.lose(1, 1);
            bus.send(0, 20, turn == 0 ? TO_ONE_GROUP : TO_ONE_GROUP + 65536, 100, 1);
            bus.pass(2);
            due("17 of the old one", bus.carried(1), four(17, 4, 1, 255));
            due("packets, if the group is that one", bus.told(0, 2), turn == 0 ? 4 : 0);
            due("under way", bus.told(0, 3), 1);
        }
        for (int turn = 0; turn < 3; turn++) {
            ClaimBus bus = fixed(4, 4, 4);
            bus.send(0, 20, TO_ONE_GROUP, 100, 1);
            bus.pass(1);
            bus.stop(0);
            bus.start(0);
            bus.pass(3748);
            due("17 twice again", bus.count(2), 3 + 2 + 1 + 2);
            bus.lose(1, 1);
            bus.lose(2, 1);
            bus.send(0, turn == 2 ? 30 : 20, turn == 1 ? TO_ONE_GROUP + 65536 : TO_ONE_GROUP, 100, 1);
            bus.pass(2);
            due("255 of the old one", bus.carried(1), four(255, 3, 255, 255));
            due("FAILED, if source and group are those", bus.told(0, 3), turn == 0 ? 3 : 1);
        }
    }

    /** One that sends to all does not hear what its old receiver tells it of that group. */
    private static void toAllHearsNone() {
        ClaimBus bus = fixed(4, 4);
        bus.send(0, 20, TO_ONE_GROUP, 100, 1);
        bus.pass(1);
        bus.stop(0);
        bus.start(0);
        bus.pass(301);
        bus.send(0, 255, TO_ONE_GROUP, 1785, 1);
        bus.pass(949);
        due("17", bus.carried(1), four(17, 4, 1, 255));
        due("nothing was put for it", bus.told(0, 2), 0);
        bus.pass(2500);
        due("255", bus.carried(1), four(255, 3, 255, 255));
        due("collects, gets no more", bus.told(1, 5), 1);
        due("under way", bus.told(0, 3), 1);
        pass(bus, 9301);
        due("DONE", bus.told(0, 3), 2);
        due("come", bus.message(1, 0, 3), sum(1785, 1));
    }

    /** Nodes 0 and 1 have one address; one sends to all, the other one to node 2. */
    private static void toAllAndToOneApart() {
        sentence("Terms: packets to all, and to one");
        ClaimBus bus = twins();
        bus.node(0, 3, 30, false, 1);
        bus.start(2);
        bus.pass(300);
        bus.send(0, 255, TO_ALL_GROUP, 28, 1);
        bus.pass(49);
        bus.send(1, 30, TO_ONE_GROUP, 28, 9);
        bus.pass(2);
        due("gets and collects from one source", bus.told(2, 5), 2);
        bus.pass(300);
        due("both come", bus.told(2, 4), 2);
        due("to one", bus.message(2, 0, 3), sum(28, 9));
        due("to all", bus.message(2, 1, 3), sum(28, 1));
    }

    private static void lastOfEachSource() {
        sentence("Terms: a node keeps what came last of each source in that group");
        ClaimBus bus = fixed(1, 1, 1);
        for (int i = 0; i < 3; i++) {
            bus.trouble(0, 100 + i, i, i);
            bus.tell(0);
            bus.pass(200);
            due("so many now", bus.kept(2, 10, -1, 0), i + 1);
        }
        bus.trouble(1, 7, 8, 9);
        bus.tell(1);
        bus.pass(1);
        due("of the other one", bus.kept(2, 20, -1, 0), 1);
        due("the first one's stay", bus.kept(2, 10, -1, 0), 3);
        bus.send(0, 255, TROUBLE_GROUP, 8, 64);
        bus.pass(1);
        due("one frame in place of three", bus.kept(2, 10, -1, 0), 1);
        due("no second one", bus.kept(2, 10, 1, 0), -1);
        bus.send(0, 255, TROUBLE_GROUP, 8, 0);
        bus.pass(1);
        due("none in place of one", bus.kept(2, 10, -1, 0), 0);
        due("none in place of one", bus.kept(2, 10, 0, 0), -1);
        for (int group : new int[] {TROUBLE_GROUP - 1, TROUBLE_GROUP + 1, TROUBLE_GROUP + 65536, 254 << 8, TO_ALL_GROUP}) {
            bus.send(0, 255, group, 8, 64);
            bus.send(1, 255, group, 20, 64);
            bus.pass(200);
            due("not of group " + group, bus.kept(2, 10, -1, 0), 0);
            due("not of group " + group, bus.kept(2, 20, -1, 0), 1);
        }
        bus.tell(0);
        bus.pass(60);
        due("a longer one that is not there yet", bus.kept(2, 10, -1, 0), 0);
        bus.lose(2, 1);
        bus.pass(300);
        due("nor ever", bus.kept(2, 10, -1, 0), 0);
        due("to the other it came", bus.kept(1, 10, -1, 0), 3);
    }

    private static void firstByte64() {
        sentence("Terms: of a message of one frame one trouble, if its first byte is 64, else none");
        for (int first : new int[] {0, 1, 63, 64, 65, 128, 192, 255, 256 + 64, -192}) {
            ClaimBus bus = fixed(1, 1);
            bus.send(0, 255, TROUBLE_GROUP, 8, first);
            bus.pass(1);
            boolean isOne = (first & 255) == 64;
            due("first byte " + first, bus.kept(1, 10, -1, 0), isOne ? 1 : 0);
            due("SPN", bus.kept(1, 10, 0, 0), isOne ? 68 | 73 << 8 | 2 << 16 : -1);
            due("FMI", bus.kept(1, 10, 0, 1), isOne ? 16 : -1);
            due("OC", bus.kept(1, 10, 0, 2), isOne ? 89 : -1);
        }
    }

    private static void fourBytesEach() {
        sentence("Terms: of a longer one, whatever its first byte, as many as have four bytes each, at most ten");
        int[][] sizes = {{9, 1}, {10, 2}, {13, 2}, {14, 3}, {17, 3}, {18, 4}, {37, 8}, {38, 9}, {41, 9}, {42, 10}, {43, 10}, {46, 10},
            {47, 10}, {1785, 10}};
        for (int[] one : sizes) {
            for (int seed : new int[] {0, 64, 129}) {
                ClaimBus bus = fixed(1, 1);
                bus.send(0, 255, TROUBLE_GROUP, one[0], seed);
                pass(bus, 12751);
                due("size " + one[0], bus.kept(1, 10, -1, 0), one[1]);
                int at = 4 * one[1] - 2;
                int[] bytes = new int[4];
                for (int i = 0; i < 4; i++) {
                    bytes[i] = seed + (at + i) * (at + i) & 255;
                }
                due("the last SPN", bus.kept(1, 10, one[1] - 1, 0), bytes[0] | bytes[1] << 8 | bytes[2] >> 5 << 16);
                due("the last FMI", bus.kept(1, 10, one[1] - 1, 1), bytes[2] & 31);
                due("the last OC, all eight bits", bus.kept(1, 10, one[1] - 1, 2), bytes[3]);
                due("no more", bus.kept(1, 10, one[1], 0), -1);
            }
        }
    }
}
