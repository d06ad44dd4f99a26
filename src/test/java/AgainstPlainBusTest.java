import java.util.Random;

/** Random runs of at most 512 calls, looks too, each answer compared with that of the plain second reading. */
public final class AgainstPlainBusTest {
    private static final int RUNS = 3000;
    private static final int MOST_CALLS = 512;
    /** What looking at all takes, when the run ends. */
    private static final int LAST_LOOKS = 170;

    /** What a run does more of: nothing; no frame is lost and no node stops; all to one; late nodes; troubles. */
    private static final int STYLES = 5;
    private static final int NOT_DISTURBED = 1;
    private static final int ALL_TO_ONE = 2;
    private static final int LATE = 3;
    private static final int TROUBLES = 4;

    private final Random random;
    private final ClaimBus bus = new ClaimBus();
    private final PlainBus plain = new PlainBus();
    private final StringBuilder calls = new StringBuilder();
    private final int style;
    private int made = 0;
    private int wrong = 0;

    private AgainstPlainBusTest(int seed) {
        random = new Random(seed);
        style = seed % STYLES;
    }

    public static void main(String[] args) {
        int runs = args.length > 0 ? Integer.parseInt(args[0]) : RUNS;
        int bad = 0;
        int[] seen = new int[4];
        for (int seed = 0; seed < runs && bad < 3; seed++) {
            AgainstPlainBusTest run = new AgainstPlainBusTest(seed);
            run.run();
            for (int i = 0; i < run.plain.nodes.size(); i++) {
                seen[run.plain.told(i, 3)]++;
                seen[0] += run.plain.told(i, 4);
            }
            if (run.wrong > 0) {
                bad++;
                System.out.println("seed " + seed + run.calls);
            }
        }
        System.out.println(runs + " runs, " + bad + " not alike; messages " + seen[0] + ", under way " + seen[1]
            + ", done " + seen[2] + ", failed " + seen[3]);
        System.exit(bad == 0 ? 0 : 1);
    }

    private int any(int bound) {
        return random.nextInt(bound);
    }

    private int oneOf(int... values) {
        return values[any(values.length)];
    }

    private void run() {
        int nodes = style == ALL_TO_ONE ? 8 : 2 + any(7);
        for (int i = 0; i < nodes; i++) {
            oneNode(i);
            if (style != LATE || any(3) > 0) {
                call("start " + i, number(bus.start(i)), number(plain.start(i)));
            }
        }
        passSome(style == LATE ? 20 : 300);
        while (made < MOST_CALLS - LAST_LOOKS && wrong == 0) {
            oneCall();
            lookAtSome(any(4));
        }
        lookAtAll();
        if (made > MOST_CALLS) {
            wrong++;
            calls.append("\n  ").append(made).append(" calls");
        }
    }

    private void oneNode(int i) {
        int address = style == ALL_TO_ONE ? 30 * i : oneOf(0, 10, 20, 128, 129, 130, 246, 247, any(248));
        boolean free = any(3) > 0;
        int window = 1 + any(16);
        int high = oneOf(0, 0, -1, 5);
        int low = oneOf(i, -i, random.nextInt());
        if (any(8) == 0) {
            address = oneOf(-1, 0, 247, 248, 254, random.nextInt());
            window = oneOf(-1, 0, 1, 16, 17, random.nextInt());
        }
        call("node " + high + " " + low + " " + address + " " + free + " " + window,
            bus.node(high, low, address, free, window), plain.node(high, low, address, free, window));
        if (any(4) == 0) {
            call("node " + high + " " + low, bus.node(high, low, 7, true, 7), plain.node(high, low, 7, true, 7));
        }
    }

    private static int number(boolean yes) {
        return yes ? 1 : 0;
    }

    private void call(String what, int got, int due) {
        made++;
        calls.append("\n  ").append(what);
        if (got != due) {
            wrong++;
            calls.append(" answered ").append(got).append(", due is ").append(due);
        }
    }

    private void passSome(int milliseconds) {
        call("pass " + milliseconds, bus.pass(milliseconds), plain.pass(milliseconds));
    }

    private void oneCall() {
        int n = any(50) == 0 || plain.nodes.isEmpty() ? oneOf(-1, 8, 9, 1000) : any(plain.nodes.size());
        int kind = style == TROUBLES && any(4) == 0 ? 72 : any(100);
        if (kind == 0) {
            oneNode(any(9));
        } else if (kind == 1) {
            passSome(oneOf(-1, 0, 5001, 5000, random.nextInt()));
        } else if (style == ALL_TO_ONE && kind < 33) {
            passSome(oneOf(1, 1, 2, 3, 5, 9, 20, 1250));
        } else if (kind < 34) {
            passSome(oneOf(1, 1, 2, 3, 5, 9, 20, 49, 50, 51, 60, 100, 249, 250, 251, 400, 749, 750, 751, 1249, 1250, 1251, 3000));
        } else if (kind < 60) {
            sendSome(style == ALL_TO_ONE ? 1 + any(7) : n);
        } else if (kind < 66) {
            int to = any(2) == 0 ? 255 : anAddress();
            call("request " + n + " " + to, number(bus.request(n, to)), number(plain.request(n, to)));
        } else if (kind < 72) {
            int frames = any(10) == 0 ? oneOf(-1, 51, 50, 20) : any(6);
            if (style != NOT_DISTURBED) {
                call("lose " + n + " " + frames, number(bus.lose(n, frames)), number(plain.lose(n, frames)));
            }
        } else if (kind < 80) {
            n = style == TROUBLES ? 0 : n;
            int spn = oneOf(0, 1, 255, 65535, 65536, 524287, any(524288), any(10) > 0 ? 7 : oneOf(-1, 524288));
            int fmi = oneOf(0, 31, any(32), any(10) > 0 ? 7 : oneOf(-1, 32));
            int oc = oneOf(0, 127, any(128), any(10) > 0 ? 7 : oneOf(-1, 128));
            call("trouble " + n + " " + spn + " " + fmi + " " + oc, bus.trouble(n, spn, fmi, oc), plain.trouble(n, spn, fmi, oc));
        } else if (kind < 88) {
            call("tell " + n, number(bus.tell(n)), number(plain.tell(n)));
        } else if (kind < 96) {
            call("start " + n, number(bus.start(n)), number(plain.start(n)));
        } else if (style != NOT_DISTURBED) {
            call("stop " + n, number(bus.stop(n)), number(plain.stop(n)));
        }
    }

    private int anAddress() {
        if (any(8) == 0 || plain.nodes.isEmpty()) {
            return oneOf(-1, 254, 255, 256, 0, 253, any(256));
        }
        return plain.told(any(plain.nodes.size()), 1);
    }

    private void sendSome(int n) {
        int group = oneOf(61184, 61184, 65280, 65226, 65299, 0, 60160, 59904, 60928, 126464, 126208, 262143, 61440, 61695, 256 * any(1024),
            any(4) > 0 ? 61184 : oneOf(-1, 61185, 61439, 262144));
        int to = group / 256 % 256 < 240 ? anAddress() : oneOf(255, 255, 255, 255, 5);
        if (any(6) == 0) {
            to = 255;
        }
        int size = oneOf(1, 7, 8, 9, 14, 15, 30, 100, 1 + any(300), 1785, 1786, 0);
        int seed = oneOf(64, 0, random.nextInt());
        if (style == ALL_TO_ONE && any(4) > 0) {
            group = oneOf(61184, 126464);
            to = plain.told(0, 1);
            size = 1 + any(1785);
        }
        call("send " + n + " " + to + " " + group + " " + size + " " + seed,
            number(bus.send(n, to, group, size, seed)), number(plain.send(n, to, group, size, seed)));
    }

    private void lookAtSome(int many) {
        for (int k = 0; k < many; k++) {
            int node = any(30) == 0 || plain.nodes.isEmpty() ? oneOf(-1, 8, 9) : any(plain.nodes.size());
            int kind = any(20);
            if (kind < 11) {
                lookAtTold(node, any(40) == 0 ? oneOf(-1, 7) : any(7));
            } else if (kind < 17) {
                lookAtNode(node, kind - 11);
            } else {
                lookAtBus(kind - 17, any(6) - 1);
            }
        }
    }

    private void lookAtAll() {
        for (int i = 0; i < plain.nodes.size(); i++) {
            for (int what = 0; what < 7; what++) {
                lookAtTold(i, what);
            }
            for (int kind = 0; kind < 6; kind++) {
                lookAtNode(i, kind);
                lookAtNode(i, kind);
            }
        }
        for (int what = 0; what < 4; what++) {
            lookAtBus(0, what);
            lookAtBus(1, what);
        }
        lookAtBus(2, 0);
    }

    private void lookAtTold(int i, int what) {
        look("told", bus.told(i, what), plain.told(i, what), i, what);
    }

    private void lookAtNode(int i, int kind) {
        int address = any(4) == 0 ? any(256) : oneOf(-1, 0, 10, 20, 128, 129, 130, 131, 246, 247, 254);
        int what = any(6) - 1;
        int k = any(3) == 0 ? 20 : any(22) - 1;
        if (kind < 2) {
            look("table", bus.table(i, address), plain.table(i, address), i, address);
        } else if (kind == 2) {
            look("message", bus.message(i, k, what), plain.message(i, k, what), i, k, what);
        } else if (kind == 3) {
            int last = Math.min(plain.told(i, 4), 20) - 1;
            look("message", bus.message(i, last, 3), plain.message(i, last, 3), i, last, 3);
        } else if (kind == 4) {
            look("kept", bus.kept(i, address, -1, what), plain.kept(i, address, -1, what), i, address, -1, what);
        } else {
            int trouble = any(13) - 2;
            look("kept", bus.kept(i, address, trouble, what), plain.kept(i, address, trouble, what), i, address, trouble, what);
        }
    }

    private void lookAtBus(int kind, int what) {
        if (kind == 0) {
            look("carried", bus.carried(what), plain.carried(what), what);
        } else if (kind == 1) {
            look("count", bus.count(what), plain.count(what), what);
        } else {
            look("sound", number(bus.sound()), number(plain.sound()));
        }
    }

    private void look(String what, int got, int due, int... at) {
        made++;
        if (got != due) {
            made--;
            call(what + " " + java.util.Arrays.toString(at), got, due);
        }
    }
}
