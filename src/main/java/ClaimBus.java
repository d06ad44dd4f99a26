import java.util.ArrayList;

/**
 * Nodes on a bus that claim addresses by their names, and send each other messages longer than a
 * frame. ../shared/DOC.md says what each call promises.
 */
public final class ClaimBus {
    public static final int BAD = -1;

    private static final int MOST_NODES = 8;
    private static final int MOST_MILLISECONDS = 5000;
    private static final int MOST_LOST = 50;

    private static final int TO_ALL = 255;
    private static final int NO_ADDRESS = 254;
    private static final int LAST_WANTED = 247;
    private static final int FIRST_FREE = 128;
    private static final int FREE_ADDRESSES = 120;
    private static final int FIRST_WITHOUT_TO = 240;

    private static final int OFF = 0;
    private static final int CLAIMING = 1;
    private static final int HAS = 2;
    private static final int NONE = 3;

    private static final int UNDER_WAY = 1;
    private static final int DONE = 2;
    private static final int FAILED = 3;

    private static final int REQUEST = 234;
    private static final int PACKET = 235;
    private static final int CONTROL = 236;
    private static final int CLAIM = 238;

    private static final int WANTS_TO_SEND = 16;
    private static final int CLEARED = 17;
    private static final int ALL_CAME = 19;
    private static final int TO_ALL_FOLLOWS = 32;
    private static final int BROKEN_OFF = 255;
    private static final int WHY_NO_PLACE = 2;
    private static final int WHY_TIME = 3;

    private static final int CLAIM_WAIT = 250;
    private static final int PACKET_PACE = 50;
    private static final int ANSWER_WAIT = 1250;
    private static final int COLLECT_WAIT = 750;

    private static final int NEVER = -1;
    private static final int FAR = 2147483647;

    private static final int FRAME_BYTES = 8;
    private static final int PACKET_BYTES = 7;
    private static final int MOST_BYTES = 1785;
    private static final int MOST_GROUP = 262143;
    private static final int MOST_GETS = 3;
    private static final int MOST_SOURCES = 254;
    private static final int MOST_WINDOW = 16;

    private static final int TROUBLE_GROUP = 65226;
    private static final int SOME_TROUBLE = 64;
    private static final int MOST_TROUBLES = 10;
    private static final int MOST_SPN = 524287;
    private static final int MOST_FMI = 31;
    private static final int MOST_OC = 127;

    private final Node[] nodes = new Node[MOST_NODES];
    private final Frame last = new Frame();
    private final Frame candidate = new Frame();
    private int nodeCount = 0;
    private int time = 0;
    private int framesCarried = 0;
    private int lastSender = BAD;
    private boolean stopped = false;

    public ClaimBus() {
    }

    public int node(int high, int low, int address, boolean free, int window) {
        if (address < 0 || address > LAST_WANTED || window < 1 || window > MOST_WINDOW) {
            return BAD;
        }
        if (nodeCount >= MOST_NODES || nameIsThere(high, low)) {
            return BAD;
        }
        nodes[nodeCount] = new Node(high, low, address, free, window);
        nodeCount++;
        return nodeCount - 1;
    }

    public boolean start(int node) {
        Node starter = find(node);
        if (starter == null || starter.state != OFF) {
            return false;
        }
        starter.claimAddress(starter.wanted);
        return true;
    }

    public boolean stop(int node) {
        Node stopper = find(node);
        if (stopper == null || stopper.state == OFF) {
            return false;
        }
        stopper.turnOff();
        stopped = true;
        return true;
    }

    public boolean request(int node, int to) {
        Node asker = find(node);
        if (asker == null || asker.state != HAS || !isReceiver(to)) {
            return false;
        }
        asker.putRequest(to);
        return true;
    }

    public boolean send(int node, int to, int group, int size, int seed) {
        Node sender = find(node);
        if (sender == null || !sender.maySend() || !isSendable(to, group, size)) {
            return false;
        }
        sender.beginSending(new Message(group, size, seed, null), to, time);
        return true;
    }

    public int trouble(int node, int spn, int fmi, int oc) {
        Node owner = find(node);
        if (owner == null || spn < 0 || spn > MOST_SPN) {
            return BAD;
        }
        if (fmi < 0 || fmi > MOST_FMI || oc < 0 || oc > MOST_OC) {
            return BAD;
        }
        return owner.addTrouble(spn, fmi, oc);
    }

    public boolean tell(int node) {
        Node teller = find(node);
        if (teller == null || !teller.maySend()) {
            return false;
        }
        teller.beginSending(teller.troubleMessage(), TO_ALL, time);
        return true;
    }

    public boolean lose(int node, int frames) {
        Node loser = find(node);
        if (loser == null || frames < 0 || frames > MOST_LOST) {
            return false;
        }
        loser.toLose = frames;
        return true;
    }

    public int pass(int milliseconds) {
        if (milliseconds < 1 || milliseconds > MOST_MILLISECONDS) {
            return BAD;
        }
        int end = time + milliseconds;
        for (int turn = 0; turn < milliseconds && time < end; turn++) {
            time = nextMoment(end);
            runTimers();
            carryFrame();
        }
        return time;
    }

    public int told(int node, int what) {
        Node asked = find(node);
        if (asked == null) {
            return BAD;
        }
        switch (what) {
            case 0: return asked.state;
            case 1: return asked.address;
            case 2: return asked.row.length();
            case 3: return asked.sending.state;
            case 4: return asked.inbox.came;
            case 5: return asked.openTransports();
            case 6: return asked.lost;
            default: return BAD;
        }
    }

    public int table(int node, int address) {
        Node asked = find(node);
        if (asked == null || address < 0 || address >= NO_ADDRESS) {
            return BAD;
        }
        return asked.table.nameAt(address);
    }

    public int message(int node, int k, int what) {
        Node asked = find(node);
        return asked == null ? BAD : asked.inbox.logged(k, what);
    }

    public int kept(int node, int source, int k, int what) {
        Node asked = find(node);
        return asked == null ? BAD : asked.inbox.keptTrouble(source, k, what);
    }

    public int carried(int what) {
        if (lastSender == BAD) {
            return what == 3 ? BAD : 0;
        }
        switch (what) {
            case 0: return last.identifier;
            case 1: return last.first;
            case 2: return last.others;
            case 3: return lastSender;
            default: return 0;
        }
    }

    public boolean sound() {
        return isDisturbed() || (addressesAreApart() && messagesAreTrue());
    }

    public int count(int what) {
        switch (what) {
            case 0: return nodeCount;
            case 1: return time;
            case 2: return framesCarried;
            case 3: return nodesWithAddress();
            default: return BAD;
        }
    }

    private Node find(int node) {
        return node >= 0 && node < nodeCount && node < MOST_NODES ? nodes[node] : null;
    }

    private boolean nameIsThere(int high, int low) {
        for (int i = 0; i < nodeCount; i++) {
            Node one = find(i);
            if (one != null && one.high == high && one.low == low) {
                return true;
            }
        }
        return false;
    }

    private static boolean isReceiver(int to) {
        return to == TO_ALL || (to >= 0 && to < NO_ADDRESS);
    }

    private static boolean isSendable(int to, int group, int size) {
        if (size < 1 || size > MOST_BYTES || group < 0 || group > MOST_GROUP) {
            return false;
        }
        int page = group >> 16;
        int format = group >> 8 & 255;
        boolean isTaken = (format >= REQUEST && format <= CONTROL) || format == CLAIM;
        if (page == 0 && isTaken) {
            return false;
        }
        if (format >= FIRST_WITHOUT_TO) {
            return to == TO_ALL;
        }
        return (group & 255) == 0 && isReceiver(to);
    }

    /** Where no frame waits, nothing happens until the first timer: these milliseconds are skipped. */
    private int nextMoment(int end) {
        int next = end;
        for (int i = 0; i < nodeCount; i++) {
            Node one = find(i);
            if (one != null && one.row.length() > 0) {
                return time + 1;
            }
            if (one != null) {
                next = Math.min(next, one.nextTimer());
            }
        }
        return Math.max(time + 1, next);
    }

    private void runTimers() {
        for (int i = 0; i < nodeCount; i++) {
            Node one = find(i);
            if (one != null) {
                one.runTimers(time);
            }
        }
    }

    private void carryFrame() {
        int which = firstToSend();
        Node sender = find(which);
        if (sender == null) {
            return;
        }
        sender.frameWasCarried(last.isOf(CLAIM), time);
        lastSender = which;
        framesCarried++;
        for (int i = 0; i < nodeCount; i++) {
            Node receiver = find(i);
            if (receiver != null && i != which && receiver.state != OFF) {
                receiver.hear(last, which, time);
            }
        }
    }

    /** Whose first frame goes before all others (it stands in "last" then), or BAD. */
    private int firstToSend() {
        int which = BAD;
        for (int i = 0; i < nodeCount; i++) {
            Node one = find(i);
            if (one != null && one.row.readFirst(candidate)) {
                if (which == BAD || candidate.goesBefore(last)) {
                    last.takeOver(candidate);
                    which = i;
                }
            }
        }
        return which;
    }

    private boolean isDisturbed() {
        for (int i = 0; i < nodeCount; i++) {
            Node one = find(i);
            if (one != null && one.lost > 0) {
                return true;
            }
        }
        return stopped;
    }

    private boolean addressesAreApart() {
        for (int i = 0; i < nodeCount; i++) {
            for (int j = 0; j < i; j++) {
                Node one = find(i);
                Node other = find(j);
                if (one != null && other != null && one.sharesAddressWith(other)) {
                    return false;
                }
            }
        }
        return true;
    }

    private boolean messagesAreTrue() {
        for (int i = 0; i < nodeCount; i++) {
            Node one = find(i);
            if (one != null && one.inbox.gotAnotherThanSent) {
                return false;
            }
        }
        return true;
    }

    private int nodesWithAddress() {
        int many = 0;
        for (int i = 0; i < nodeCount; i++) {
            Node one = find(i);
            if (one != null && one.state == HAS) {
                many++;
            }
        }
        return many;
    }

    /** Four bytes as one number, the first one lowest. */
    private static int pack(int first, int second, int third, int fourth) {
        return (first & 255) | (second & 255) << 8 | (third & 255) << 16 | fourth << 24;
    }

    /** Whether a number is less than another one, both without sign. */
    private static boolean isLess(int number, int other) {
        return (number ^ 1 << 31) < (other ^ 1 << 31);
    }

    /** The identifier of a frame that is no claim, of the formats that tell to whom it goes. */
    private static int identifier(int format, int to, int source) {
        return 7 << 26 | format << 16 | to << 8 | source;
    }

    /** A frame: its eight bytes are in two numbers, the first byte of each lowest. */
    private static final class Frame {
        int identifier = 0;
        int first = 0;
        int others = 0;
        /** The message that it is a part of, so that sound() can compare: no node decides by it. */
        Message whole = null;

        void takeOver(Frame other) {
            identifier = other.identifier;
            first = other.first;
            others = other.others;
            whole = other.whole;
        }

        boolean isOf(int format) {
            return (identifier >>> 16 & 1023) == format;
        }

        /** Whether it goes to all, or to that address. */
        boolean isFor(int address) {
            int specific = identifier >>> 8 & 255;
            boolean hasTo = (identifier >>> 16 & 255) < FIRST_WITHOUT_TO;
            return !hasTo || specific == TO_ALL || specific == address;
        }

        boolean isForAll() {
            return (identifier >>> 8 & 255) == TO_ALL;
        }

        int source() {
            return identifier & 255;
        }

        int group() {
            int group = identifier >>> 8 & MOST_GROUP;
            boolean hasTo = (group >> 8 & 255) < FIRST_WITHOUT_TO;
            return hasTo ? group & ~255 : group;
        }

        /** The group that a control frame tells in its last three bytes. */
        int controlGroup() {
            return others >>> 8;
        }

        int byteAt(int place) {
            return place < 4 ? first >>> 8 * place & 255 : others >>> 8 * (place - 4) & 255;
        }

        boolean goesBefore(Frame other) {
            if (identifier != other.identifier) {
                return identifier < other.identifier;
            }
            for (int i = 0; i < FRAME_BYTES; i++) {
                if (byteAt(i) != other.byteAt(i)) {
                    return byteAt(i) < other.byteAt(i);
                }
            }
            return false;
        }
    }

    /** The frames of a node that wait: a ring that grows, so that a run makes few arrays. */
    private static final class Row {
        private static final int MOST_FRAMES = 16384;
        private static final int NUMBERS = 3;

        private Message[] wholes = new Message[16];
        private int[] numbers = new int[16 * NUMBERS];
        private int head = 0;
        private int size = 0;

        int length() {
            return size;
        }

        void putLast(int identifier, int first, int others, Message whole) {
            if (makeRoom()) {
                int slot = head + size;
                size++;
                write(slot < wholes.length ? slot : slot - wholes.length, identifier, first, others, whole);
            }
        }

        void putFirst(int identifier, int first, int others) {
            if (makeRoom()) {
                head = head == 0 ? wholes.length - 1 : head - 1;
                size++;
                write(head, identifier, first, others, null);
            }
        }

        boolean readFirst(Frame into) {
            int at = head * NUMBERS;
            if (size == 0 || head >= wholes.length || at + 2 >= numbers.length) {
                return false;
            }
            into.identifier = numbers[at];
            into.first = numbers[at + 1];
            into.others = numbers[at + 2];
            into.whole = wholes[head];
            return true;
        }

        void removeFirst() {
            if (size > 0) {
                head = head + 1 < wholes.length ? head + 1 : 0;
                size--;
            }
        }

        void clear() {
            head = 0;
            size = 0;
        }

        private void write(int slot, int identifier, int first, int others, Message whole) {
            int at = slot * NUMBERS;
            if (slot >= 0 && slot < wholes.length && at + 2 < numbers.length) {
                numbers[at] = identifier;
                numbers[at + 1] = first;
                numbers[at + 2] = others;
                wholes[slot] = whole;
            }
        }

        /** Whether one more frame has a slot; the ring is twice as long where it was full. */
        private boolean makeRoom() {
            if (size < wholes.length) {
                return true;
            }
            if (size >= MOST_FRAMES) {
                return false;
            }
            Message[] moreWholes = new Message[2 * size];
            int[] moreNumbers = new int[2 * size * NUMBERS];
            for (int i = 0; i < size; i++) {
                int slot = head + i < size ? head + i : head + i - size;
                moreWholes[i] = wholes[slot];
                for (int j = 0; j < NUMBERS; j++) {
                    moreNumbers[i * NUMBERS + j] = numbers[slot * NUMBERS + j];
                }
            }
            wholes = moreWholes;
            numbers = moreNumbers;
            head = 0;
            return true;
        }
    }

    /** A message as it was sent: its bytes come from the seed, or from the troubles that it tells. */
    private static final class Message {
        final int group;
        final int size;
        private final int seed;
        private final int[] troubles;

        Message(int group, int size, int seed, int[] troubles) {
            this.group = group;
            this.size = size;
            this.seed = seed;
            this.troubles = troubles;
        }

        int packets() {
            return (size + PACKET_BYTES - 1) / PACKET_BYTES;
        }

        /** Four bytes from a place on, as one number. */
        int fourFrom(int place) {
            return pack(byteAt(place), byteAt(place + 1), byteAt(place + 2), byteAt(place + 3));
        }

        /** A byte of the message; 255 behind its end. */
        int byteAt(int place) {
            if (place < 0 || place >= size) {
                return 255;
            }
            if (troubles == null) {
                return seed + place * place + place / 256 & 255;
            }
            if (place == 0) {
                return troubles.length == 0 ? 0 : SOME_TROUBLE;
            }
            int which = (place - 2) / 4;
            if (place == 1 || which >= troubles.length) {
                return 255;
            }
            return troubles[which] >>> 8 * ((place - 2) % 4) & 255;
        }
    }

    /** What a node sends, or sent last. */
    private static final class Sending {
        int state = 0;
        int to = TO_ALL;
        int nextPacket = 1;
        int due = 0;
        Message whole = null;

        /** Whether what a node with that address tells of that group concerns this. */
        boolean goesTo(int address, int group) {
            return state == UNDER_WAY && to == address && whole != null && whole.group == group;
        }
    }

    /** A message on its way to a node: one that it gets, or one to all that it collects. */
    private static final class Transport {
        boolean open = false;
        int source = 0;
        int group = 0;
        int size = 0;
        int packets = 0;
        int window = 0;
        int expected = 1;
        int clearedTo = 0;
        int lastHeard = 0;
        int waits = 0;
        /** The sum of each byte that came times its number from 1 on. */
        int sum = 0;
        boolean isAsSent = true;
        private Message whole = null;
        /** Only these bytes are kept: the troubles, if it tells some. */
        private final int[] beginning = new int[2 + 4 * MOST_TROUBLES];

        void begin(Frame frame, int time) {
            open = true;
            source = frame.source();
            group = frame.controlGroup();
            size = frame.byteAt(1) | frame.byteAt(2) << 8;
            packets = frame.byteAt(3);
            window = frame.byteAt(4);
            expected = 1;
            clearedTo = 0;
            lastHeard = time;
            waits = 0;
            sum = 0;
            whole = frame.whole;
            isAsSent = whole != null && whole.size == size && whole.group == group;
        }

        void takePacket(Frame frame, int time) {
            int from = (expected - 1) * PACKET_BYTES;
            for (int i = 0; i < PACKET_BYTES && from + i < size; i++) {
                takeByte(from + i, frame.byteAt(i + 1));
            }
            expected++;
            lastHeard = time;
        }

        private void takeByte(int place, int value) {
            sum += value * (place + 1);
            if (whole == null || whole.byteAt(place) != value) {
                isAsSent = false;
            }
            if (place >= 0 && place < beginning.length) {
                beginning[place] = value;
            }
        }

        boolean isWhole() {
            return expected > packets;
        }

        /** One of the first bytes; 0 behind those that are kept. */
        int byteAt(int place) {
            return place < 0 || place >= beginning.length ? 0 : beginning[place];
        }
    }

    /** Which name (told by its node's number) has which address, by the claims that came. */
    private static final class Table {
        private final int[] addresses = new int[MOST_NODES];

        Table() {
            clear();
        }

        void clear() {
            for (int i = 0; i < MOST_NODES; i++) {
                addresses[i] = BAD;
            }
        }

        void learn(int name, int address) {
            for (int i = 0; i < MOST_NODES; i++) {
                if (i == name) {
                    addresses[i] = address == NO_ADDRESS ? BAD : address;
                } else if (addresses[i] == address) {
                    addresses[i] = BAD;
                }
            }
        }

        int nameAt(int address) {
            for (int i = 0; i < MOST_NODES; i++) {
                if (addresses[i] == address) {
                    return i;
                }
            }
            return BAD;
        }
    }

    /** What came to a node: its first messages, and the troubles of each source. */
    private static final class Inbox {
        private static final int MOST_LOGGED = 20;
        private static final int ENTRIES = 4;

        int came = 0;
        boolean gotAnotherThanSent = false;
        private final int[] log = new int[MOST_LOGGED * ENTRIES];
        /** Of each source how many troubles (BAD: none was told), and behind it the troubles. */
        private final int[][] troubles = new int[MOST_SOURCES][];

        void takeFrame(Frame frame) {
            int sum = 0;
            for (int i = 0; i < FRAME_BYTES; i++) {
                sum += frame.byteAt(i) * (i + 1);
            }
            enter(frame.source(), frame.group(), FRAME_BYTES, sum);
            int[] list = frame.group() == TROUBLE_GROUP ? listOf(frame.source()) : null;
            if (list != null && list.length > 1) {
                list[0] = frame.byteAt(0) == SOME_TROUBLE ? 1 : 0;
                list[1] = pack(frame.byteAt(2), frame.byteAt(3), frame.byteAt(4), frame.byteAt(5));
            }
        }

        void takeMessage(Transport from) {
            enter(from.source, from.group, from.size, from.sum);
            if (!from.isAsSent) {
                gotAnotherThanSent = true;
            }
            int[] list = from.group == TROUBLE_GROUP ? listOf(from.source) : null;
            if (list != null) {
                keepTroubles(list, from);
            }
        }

        private void keepTroubles(int[] list, Transport from) {
            int many = Math.max(0, Math.min((from.size - 2) / 4, MOST_TROUBLES));
            for (int k = 0; k < many && k + 1 < list.length; k++) {
                int at = 2 + 4 * k;
                list[k + 1] = pack(from.byteAt(at), from.byteAt(at + 1), from.byteAt(at + 2), from.byteAt(at + 3));
            }
            if (list.length > 0) {
                list[0] = many;
            }
        }

        private void enter(int source, int group, int size, int sum) {
            int at = came * ENTRIES;
            if (came < MOST_LOGGED && at >= 0 && at + 3 < log.length) {
                log[at] = source;
                log[at + 1] = group;
                log[at + 2] = size;
                log[at + 3] = sum;
            }
            came++;
        }

        private int[] listOf(int source) {
            if (source < 0 || source >= MOST_SOURCES) {
                return null;
            }
            if (troubles[source] == null) {
                troubles[source] = new int[MOST_TROUBLES + 1];
            }
            return troubles[source];
        }

        void forgetTroubles() {
            for (int[] list : troubles) {
                if (list != null && list.length > 0) {
                    list[0] = BAD;
                }
            }
        }

        int logged(int k, int what) {
            if (k < 0 || k >= MOST_LOGGED || k >= came || what < 0 || what >= ENTRIES) {
                return BAD;
            }
            return log[k * ENTRIES + what];
        }

        int keptTrouble(int source, int k, int what) {
            int[] list = source < 0 || source >= MOST_SOURCES ? null : troubles[source];
            if (list == null || k < -1 || k + 1 >= list.length) {
                return BAD;
            }
            if (k == -1) {
                return list[0];
            }
            if (k >= list[0]) {
                return BAD;
            }
            int trouble = list[k + 1];
            switch (what) {
                case 0: return (trouble & 65535) | (trouble >>> 21 & 7) << 16;
                case 1: return trouble >>> 16 & 31;
                case 2: return trouble >>> 24;
                default: return BAD;
            }
        }
    }

    /** A node: its name, its claim to an address, and what it sends, gets, collects and keeps. */
    private static final class Node {
        final int high;
        final int low;
        final int wanted;
        private final boolean free;
        private final int window;
        final Row row = new Row();
        final Table table = new Table();
        final Sending sending = new Sending();
        final Inbox inbox = new Inbox();
        private final Transport[] gets = new Transport[MOST_GETS];
        private final ArrayList<Transport> collects = new ArrayList<Transport>();
        private final int[] troubles = new int[MOST_TROUBLES];
        private int troubleCount = 0;
        int state = OFF;
        int address;
        private boolean claimWaits = false;
        private int claimCarriedAt = NEVER;
        int toLose = 0;
        int lost = 0;

        Node(int high, int low, int wanted, boolean free, int window) {
            this.high = high;
            this.low = low;
            this.wanted = wanted;
            this.free = free;
            this.window = window;
            this.address = wanted;
        }

        boolean sharesAddressWith(Node other) {
            return state == HAS && other.state == HAS && address == other.address;
        }

        int openTransports() {
            int many = 0;
            for (Transport one : gets) {
                if (one != null && one.open) {
                    many++;
                }
            }
            for (int i = 0; i < collects.size(); i++) {
                if (collects.get(i).open) {
                    many++;
                }
            }
            return many;
        }

        int addTrouble(int spn, int fmi, int oc) {
            if (troubleCount >= MOST_TROUBLES) {
                return BAD;
            }
            troubles[troubleCount] = pack(spn, spn >> 8, spn >> 16 << 5 | fmi, oc);
            troubleCount++;
            return troubleCount;
        }

        /** A copy of the troubles, since a trouble may be added while the message is under way. */
        Message troubleMessage() {
            int[] told = new int[troubleCount];
            for (int i = 0; i < told.length && i < troubles.length; i++) {
                told[i] = troubles[i];
            }
            return new Message(TROUBLE_GROUP, 2 + 4 * told.length, 0, told);
        }

        void claimAddress(int wish) {
            address = wish;
            state = CLAIMING;
            // the wait of 250 begins only when the claim to this very address is carried
            claimCarriedAt = NEVER;
            putClaim();
        }

        void turnOff() {
            dropAll();
            table.clear();
            inbox.forgetTroubles();
            state = OFF;
            address = wanted;
        }

        private void dropAll() {
            row.clear();
            claimWaits = false;
            if (sending.state == UNDER_WAY) {
                sending.state = FAILED;
            }
            for (Transport one : gets) {
                if (one != null) {
                    one.open = false;
                }
            }
            for (int i = 0; i < collects.size(); i++) {
                collects.get(i).open = false;
            }
        }

        void putClaim() {
            if (!claimWaits) {
                claimWaits = true;
                row.putFirst(6 << 26 | CLAIM << 16 | TO_ALL << 8 | address, low, high);
            }
        }

        void putRequest(int to) {
            row.putLast(identifier(REQUEST, to, address), pack(0, CLAIM, 0, 255), -1, null);
        }

        private void putControl(int to, int first, int fifth, int group, Message whole) {
            row.putLast(identifier(CONTROL, to, address), first, fifth | group << 8, whole);
        }

        private void putPacket(int number) {
            Message whole = sending.whole;
            if (whole != null) {
                int from = (number - 1) * PACKET_BYTES;
                int first = number & 255 | whole.fourFrom(from) << 8;
                row.putLast(identifier(PACKET, sending.to, address), first, whole.fourFrom(from + 3), whole);
            }
        }

        boolean maySend() {
            return state == HAS && sending.state != UNDER_WAY;
        }

        void beginSending(Message whole, int to, int time) {
            int size = whole.size;
            int group = whole.group;
            sending.whole = whole;
            sending.to = to;
            sending.nextPacket = 1;
            if (size <= FRAME_BYTES) {
                boolean hasTo = (group >> 8 & 255) < FIRST_WITHOUT_TO;
                int identifier = 7 << 26 | group << 8 | (hasTo ? to << 8 : 0) | address;
                row.putLast(identifier, whole.fourFrom(0), whole.fourFrom(4), whole);
                sending.state = DONE;
                return;
            }
            boolean toAll = to == TO_ALL;
            int first = pack(toAll ? TO_ALL_FOLLOWS : WANTS_TO_SEND, size, size >> 8, whole.packets());
            putControl(to, first, toAll ? 255 : window, group, whole);
            sending.due = time + (toAll ? PACKET_PACE : ANSWER_WAIT);
            sending.state = UNDER_WAY;
        }

        void frameWasCarried(boolean isClaim, int time) {
            row.removeFirst();
            if (isClaim) {
                claimWaits = false;
                claimCarriedAt = time;
            }
        }

        /** The first millisecond in which a timer of this node has something to say. */
        int nextTimer() {
            int next = FAR;
            if (state == CLAIMING && claimCarriedAt != NEVER) {
                next = claimCarriedAt + CLAIM_WAIT;
            }
            if (sending.state == UNDER_WAY) {
                next = Math.min(next, sending.due);
            }
            for (int i = 0; i < collects.size(); i++) {
                if (collects.get(i).open) {
                    next = Math.min(next, collects.get(i).lastHeard + COLLECT_WAIT);
                }
            }
            for (Transport one : gets) {
                if (one != null && one.open) {
                    next = Math.min(next, one.lastHeard + ANSWER_WAIT);
                }
            }
            return next;
        }

        void runTimers(int time) {
            if (state == CLAIMING && claimCarriedAt != NEVER && time - claimCarriedAt >= CLAIM_WAIT) {
                state = HAS;
            }
            if (sending.state == UNDER_WAY && time >= sending.due) {
                sendOn(time);
            }
            for (int i = 0; i < collects.size(); i++) {
                Transport one = collects.get(i);
                if (one.open && time - one.lastHeard >= COLLECT_WAIT) {
                    one.open = false;
                }
            }
            for (Transport one : gets) {
                if (one != null && one.open && time - one.lastHeard >= ANSWER_WAIT) {
                    waitedTooLong(one, time);
                }
            }
        }

        private void sendOn(int time) {
            if (sending.to != TO_ALL) {
                breakOff(sending.to, sending.whole == null ? 0 : sending.whole.group, WHY_TIME);
                sending.state = FAILED;
                return;
            }
            putPacket(sending.nextPacket);
            sending.nextPacket++;
            sending.due = time + PACKET_PACE;
            if (sending.whole == null || sending.nextPacket > sending.whole.packets()) {
                sending.state = DONE;
            }
        }

        private void waitedTooLong(Transport got, int time) {
            got.waits++;
            if (got.waits < 3) {
                clearNext(got, time);
            } else {
                breakOff(got.source, got.group, WHY_TIME);
                got.open = false;
            }
        }

        private void breakOff(int to, int group, int why) {
            putControl(to, pack(BROKEN_OFF, why, 255, 255), 255, group, null);
        }

        private void clearNext(Transport got, int time) {
            int left = got.packets - got.expected + 1;
            int many = Math.min(Math.min(window, got.window), left);
            got.clearedTo = got.expected + many - 1;
            got.lastHeard = time;
            putControl(got.source, pack(CLEARED, many, got.expected, 255), 255, got.group, null);
        }

        /** A frame of another node comes to this one, which is on. */
        void hear(Frame frame, int sender, int time) {
            if (toLose > 0) {
                toLose--;
                lost++;
            } else if (frame.isOf(CLAIM)) {
                hearClaim(frame, sender);
            } else if (!frame.isFor(address)) {
                return;
            } else if (frame.isOf(REQUEST)) {
                putClaim();
            } else if (state != HAS) {
                return;
            } else if (frame.isOf(CONTROL)) {
                hearControl(frame, time);
            } else if (!frame.isOf(PACKET)) {
                inbox.takeFrame(frame);
            } else if (frame.isForAll()) {
                collectPacket(frame, time);
            } else {
                getPacket(frame, time);
            }
        }

        private void hearClaim(Frame frame, int sender) {
            table.learn(sender, frame.source());
            boolean hasOne = state == CLAIMING || state == HAS;
            if (!hasOne || frame.source() != address) {
                return;
            }
            if (goesBeforeName(frame.others, frame.first)) {
                putClaim();
                return;
            }
            dropAll();
            int next = free ? nextFreeAddress() : NO_ADDRESS;
            if (next == NO_ADDRESS) {
                state = NONE;
                address = NO_ADDRESS;
                putClaim();
            } else {
                claimAddress(next);
            }
        }

        private boolean goesBeforeName(int otherHigh, int otherLow) {
            return high != otherHigh ? isLess(high, otherHigh) : isLess(low, otherLow);
        }

        /** The first address behind the own one that the table does not have; the own one last. */
        private int nextFreeAddress() {
            boolean isWithin = address >= FIRST_FREE && address < FIRST_FREE + FREE_ADDRESSES;
            int from = isWithin ? address - FIRST_FREE + 1 : 0;
            for (int i = 0; i < FREE_ADDRESSES; i++) {
                int next = FIRST_FREE + (from + i) % FREE_ADDRESSES;
                if (table.nameAt(next) == BAD) {
                    return next;
                }
            }
            return NO_ADDRESS;
        }

        private void hearControl(Frame frame, int time) {
            int source = frame.source();
            int group = frame.controlGroup();
            boolean isMine = sending.goesTo(source, group);
            switch (frame.byteAt(0)) {
                case WANTS_TO_SEND:
                    Transport got = placeFor(source);
                    if (got == null) {
                        breakOff(source, group, WHY_NO_PLACE);
                    } else {
                        got.begin(frame, time);
                        clearNext(got, time);
                    }
                    break;
                case TO_ALL_FOLLOWS:
                    beginCollecting(frame, time);
                    break;
                case CLEARED:
                    if (isMine) {
                        sendCleared(frame.byteAt(1), frame.byteAt(2), time);
                    }
                    break;
                case ALL_CAME:
                    if (isMine) {
                        sending.state = DONE;
                    }
                    break;
                case BROKEN_OFF:
                    if (isMine) {
                        sending.state = FAILED;
                    }
                    dropGot(source, group);
                    break;
                default:
                    break;
            }
        }

        private void sendCleared(int many, int from, int time) {
            for (int i = 0; i < many; i++) {
                putPacket(from + i);
            }
            sending.due = time + ANSWER_WAIT;
        }

        private void dropGot(int source, int group) {
            Transport got = gotFrom(source);
            if (got != null && got.group == group) {
                got.open = false;
            }
        }

        private Transport gotFrom(int source) {
            for (Transport one : gets) {
                if (one != null && one.open && one.source == source) {
                    return one;
                }
            }
            return null;
        }

        /** Where to get what that source wants to send: in its place that it has, or the first free one. */
        private Transport placeFor(int source) {
            Transport got = gotFrom(source);
            for (int i = 0; got == null && i < MOST_GETS; i++) {
                if (gets[i] == null) {
                    gets[i] = new Transport();
                }
                got = gets[i].open ? null : gets[i];
            }
            return got;
        }

        private void getPacket(Frame frame, int time) {
            Transport got = gotFrom(frame.source());
            if (got == null || frame.byteAt(0) != got.expected) {
                return;
            }
            got.takePacket(frame, time);
            if (got.isWhole()) {
                putControl(got.source, pack(ALL_CAME, got.size, got.size >> 8, got.packets), 255, got.group, null);
                got.open = false;
                inbox.takeMessage(got);
            } else if (got.expected > got.clearedTo) {
                clearNext(got, time);
            }
        }

        private Transport collectedFrom(int source) {
            for (int i = 0; i < collects.size(); i++) {
                Transport one = collects.get(i);
                if (one.open && one.source == source) {
                    return one;
                }
            }
            return null;
        }

        private void beginCollecting(Frame frame, int time) {
            Transport one = collectedFrom(frame.source());
            for (int i = 0; one == null && i < collects.size(); i++) {
                one = collects.get(i).open ? null : collects.get(i);
            }
            if (one == null && collects.size() < MOST_SOURCES) {
                one = new Transport();
                collects.add(one);
            }
            if (one != null) {
                one.begin(frame, time);
            }
        }

        private void collectPacket(Frame frame, int time) {
            Transport one = collectedFrom(frame.source());
            if (one == null) {
                return;
            }
            if (frame.byteAt(0) != one.expected) {
                one.open = false;
                return;
            }
            one.takePacket(frame, time);
            if (one.isWhole()) {
                one.open = false;
                inbox.takeMessage(one);
            }
        }
    }
}
