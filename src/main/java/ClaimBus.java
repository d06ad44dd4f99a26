import java.util.ArrayList;

/**
 * Nodes on a bus that claim addresses by their names, and send each other messages longer than a
 * frame. ../shared/DOC.md says what each call promises.
 */
public final class ClaimBus {
    public static final int BAD = -1;

    private static final int MOST_NODES = 8;
    private static final int MOST_MILLISECONDS = 5000;
    private static final int MOST_LOST = 50;

    private static final int TO_ALL = 255;
    private static final int NO_ADDRESS = 254;
    private static final int LAST_WANTED = 247;
    private static final int FIRST_FREE = 128;
    private static final int FREE_ADDRESSES = 120;
    private static final int FIRST_WITHOUT_TO = 240;

    private static final int OFF = 0;
    private static final int CLAIMING = 1;
    private static final int HAS = 2;
    private static final int NONE = 3;

    private static final int UNDER_WAY = 1;
    private static final int DONE = 2;
    private static final int FAILED = 3;

    private static final int REQUEST = 234;
    private static final int PACKET = 235;
    private static final int CONTROL = 236;
    private static final int CLAIM = 238;

    private static final int WANTS_TO_SEND = 16;
    private static final int CLEARED = 17;
    private static final int ALL_CAME = 19;
    private static final int TO_ALL_FOLLOWS = 32;
    private static final int BROKEN_OFF = 255;
    private static final int WHY_NO_PLACE = 2;
    private static final int WHY_TIME = 3;
    /** Beside the control frames' first bytes and the formats above: a message that is one frame. */
    private static final int SHORT = 0;

    private static final int CLAIM_WAIT = 250;
    private static final int PACKET_PACE = 50;
    private static final int ANSWER_WAIT = 1250;
    private static final int COLLECT_WAIT = 750;

    private static final int NEVER = -1;
    private static final int FAR = 2147483647;

    private static final int FRAME_BYTES = 8;
    private static final int PACKET_BYTES = 7;
    private static final int MOST_BYTES = 1785;
    private static final int MOST_GROUP = 262143;
    private static final int MOST_GETS = 3;
    private static final int MOST_SOURCES = 254;
    private static final int MOST_WINDOW = 16;

    private static final int TROUBLE_GROUP = 65226;
    private static final int SOME_TROUBLE = 64;
    private static final int MOST_TROUBLES = 10;
    private static final int MOST_SPN = 524287;
    private static final int MOST_FMI = 31;
    private static final int MOST_OC = 127;

    private final Node[] nodes = new Node[MOST_NODES];
    private final Store store = new Store();
    private final Frame last = new Frame();
    private int nodeCount = 0;
    private int time = 0;
    private int framesCarried = 0;
    private int lastSender = BAD;
    private boolean stopped = false;

    public ClaimBus() {
    }

    public int node(int high, int low, int address, boolean free, int window) {
        if (address < 0 || address > LAST_WANTED || window < 1 || window > MOST_WINDOW) {
            return BAD;
        }
        if (nodeCount >= MOST_NODES || nameIsThere(high, low)) {
            return BAD;
        }
        nodes[nodeCount] = new Node(high, low, address, free, window, store);
        nodeCount++;
        return nodeCount - 1;
    }

    public boolean start(int node) {
        Node starter = find(node);
        if (starter == null || starter.state != OFF) {
            return false;
        }
        starter.claimAddress(starter.wanted);
        return true;
    }

    public boolean stop(int node) {
        Node stopper = find(node);
        if (stopper == null || stopper.state == OFF) {
            return false;
        }
        stopper.turnOff();
        stopped = true;
        return true;
    }

    public boolean request(int node, int to) {
        Node asker = find(node);
        if (asker == null || asker.state != HAS || !isReceiver(to)) {
            return false;
        }
        asker.row.put(null, to, REQUEST, 0, 0);
        return true;
    }

    public boolean send(int node, int to, int group, int size, int seed) {
        Node sender = find(node);
        if (sender == null || !sender.maySend() || !isSendable(to, group, size)) {
            return false;
        }
        sender.beginSending(store.newMessage(to, group, size, seed), time);
        return true;
    }

    public int trouble(int node, int spn, int fmi, int oc) {
        Node owner = find(node);
        if (owner == null || spn < 0 || spn > MOST_SPN) {
            return BAD;
        }
        if (fmi < 0 || fmi > MOST_FMI || oc < 0 || oc > MOST_OC) {
            return BAD;
        }
        return owner.addTrouble(spn, fmi, oc);
    }

    public boolean tell(int node) {
        Node teller = find(node);
        if (teller == null || !teller.maySend()) {
            return false;
        }
        teller.beginSending(store.newTelling(teller.copyOfTroubles()), time);
        return true;
    }

    public boolean lose(int node, int frames) {
        Node loser = find(node);
        if (loser == null || frames < 0 || frames > MOST_LOST) {
            return false;
        }
        loser.toLose = frames;
        return true;
    }

    public int pass(int milliseconds) {
        if (milliseconds < 1 || milliseconds > MOST_MILLISECONDS) {
            return BAD;
        }
        int end = time + milliseconds;
        for (int turn = 0; turn < milliseconds && time < end; turn++) {
            time = nextMoment(end);
            runTimers();
            carryFrame();
        }
        return time;
    }

    public int told(int node, int what) {
        Node asked = find(node);
        if (asked == null) {
            return BAD;
        }
        switch (what) {
            case 0: return asked.state;
            case 1: return asked.address;
            case 2: return asked.row.length();
            case 3: return asked.sending.state;
            case 4: return asked.inbox.came;
            case 5: return asked.openTransports();
            case 6: return asked.lost;
            default: return BAD;
        }
    }

    public int table(int node, int address) {
        Node asked = find(node);
        if (asked == null || address < 0 || address >= NO_ADDRESS) {
            return BAD;
        }
        return asked.table.nameAt(address);
    }

    public int message(int node, int k, int what) {
        Node asked = find(node);
        return asked == null ? BAD : asked.inbox.logged(k, what);
    }

    public int kept(int node, int source, int k, int what) {
        Node asked = find(node);
        return asked == null ? BAD : asked.inbox.keptTrouble(source, k, what);
    }

    public int carried(int what) {
        if (lastSender == BAD) {
            return what == 3 ? BAD : 0;
        }
        switch (what) {
            case 0: return last.identifier;
            case 1: return last.first;
            case 2: return last.others;
            case 3: return lastSender;
            default: return 0;
        }
    }

    public boolean sound() {
        return isDisturbed() || (addressesAreApart() && messagesAreTrue());
    }

    public int count(int what) {
        switch (what) {
            case 0: return nodeCount;
            case 1: return time;
            case 2: return framesCarried;
            case 3: return nodesWithAddress();
            default: return BAD;
        }
    }

    private Node find(int node) {
        return node >= 0 && node < nodeCount && node < MOST_NODES ? nodes[node] : null;
    }

    private boolean nameIsThere(int high, int low) {
        for (int i = 0; i < nodeCount; i++) {
            Node one = find(i);
            if (one != null && one.high == high && one.low == low) {
                return true;
            }
        }
        return false;
    }

    private static boolean isReceiver(int to) {
        return to == TO_ALL || (to >= 0 && to < NO_ADDRESS);
    }

    private static boolean isSendable(int to, int group, int size) {
        if (size < 1 || size > MOST_BYTES || group < 0 || group > MOST_GROUP) {
            return false;
        }
        int page = group >> 16;
        int format = group >> 8 & 255;
        boolean isTaken = (format >= REQUEST && format <= CONTROL) || format == CLAIM;
        if (page == 0 && isTaken) {
            return false;
        }
        if (format >= FIRST_WITHOUT_TO) {
            return to == TO_ALL;
        }
        return (group & 255) == 0 && isReceiver(to);
    }

    /** Where no frame waits, nothing happens until the first timer: these milliseconds are skipped. */
    private int nextMoment(int end) {
        int next = end;
        for (int i = 0; i < nodeCount; i++) {
            Node one = find(i);
            if (one != null && one.row.length() > 0) {
                return time + 1;
            }
            if (one != null) {
                next = Math.min(next, one.nextTimer());
            }
        }
        return Math.max(time + 1, next);
    }

    private void runTimers() {
        for (int i = 0; i < nodeCount; i++) {
            Node one = find(i);
            if (one != null) {
                one.runTimers(time);
            }
        }
    }

    private void carryFrame() {
        int which = firstToSend();
        Node sender = find(which);
        if (sender == null) {
            return;
        }
        sender.frameWasCarried(last.isOf(CLAIM), time);
        lastSender = which;
        framesCarried++;
        for (int i = 0; i < nodeCount; i++) {
            Node receiver = find(i);
            if (receiver != null && i != which && receiver.state != OFF) {
                receiver.hear(last, which, time);
            }
        }
    }

    /** Whose first frame goes before all others (it stands in "last" then), or BAD. */
    private int firstToSend() {
        int which = BAD;
        Frame best = null;
        for (int i = 0; i < nodeCount; i++) {
            Node one = find(i);
            Frame frame = one == null ? null : one.row.first(one.address);
            if (frame != null && (best == null || frame.goesBefore(best))) {
                best = frame;
                which = i;
            }
        }
        if (best != null) {
            last.takeOver(best);
        }
        return which;
    }

    private boolean isDisturbed() {
        for (int i = 0; i < nodeCount; i++) {
            Node one = find(i);
            if (one != null && one.lost > 0) {
                return true;
            }
        }
        return stopped;
    }

    private boolean addressesAreApart() {
        for (int i = 0; i < nodeCount; i++) {
            for (int j = 0; j < i; j++) {
                Node one = find(i);
                Node other = find(j);
                if (one != null && other != null && one.sharesAddressWith(other)) {
                    return false;
                }
            }
        }
        return true;
    }

    private boolean messagesAreTrue() {
        for (int i = 0; i < nodeCount; i++) {
            Node one = find(i);
            if (one != null && one.inbox.gotAnotherThanSent) {
                return false;
            }
        }
        return true;
    }

    private int nodesWithAddress() {
        int many = 0;
        for (int i = 0; i < nodeCount; i++) {
            Node one = find(i);
            if (one != null && one.state == HAS) {
                many++;
            }
        }
        return many;
    }

    /** Four bytes as one number, the first one lowest. */
    private static int pack(int first, int second, int third, int fourth) {
        return (first & 255) | (second & 255) << 8 | (third & 255) << 16 | fourth << 24;
    }

    /** Whether a number is less than another one, both without sign. */
    private static boolean isLess(int number, int other) {
        return (number ^ 1 << 31) < (other ^ 1 << 31);
    }

    /** The identifier of a frame that is no claim, of the formats that tell to whom it goes. */
    private static int identifier(int format, int to, int source) {
        return 7 << 26 | format << 16 | to << 8 | source;
    }

    /** A frame: its eight bytes are in two numbers, the first byte of each lowest. */
    private static final class Frame {
        int identifier = 0;
        int first = 0;
        int others = 0;
        /** The message that it belongs to: sound() compares with it, and an answer's entry names it. */
        Message whole = null;

        void write(int identifier, int first, int others, Message whole) {
            this.identifier = identifier;
            this.first = first;
            this.others = others;
            this.whole = whole;
        }

        void takeOver(Frame other) {
            write(other.identifier, other.first, other.others, other.whole);
        }

        boolean isOf(int format) {
            return (identifier >>> 16 & 1023) == format;
        }

        /** Whether it goes to all, or to that address. */
        boolean isFor(int address) {
            int specific = identifier >>> 8 & 255;
            boolean hasTo = (identifier >>> 16 & 255) < FIRST_WITHOUT_TO;
            return !hasTo || specific == TO_ALL || specific == address;
        }

        boolean isForAll() {
            return (identifier >>> 8 & 255) == TO_ALL;
        }

        int source() {
            return identifier & 255;
        }

        int group() {
            int group = identifier >>> 8 & MOST_GROUP;
            boolean hasTo = (group >> 8 & 255) < FIRST_WITHOUT_TO;
            return hasTo ? group & ~255 : group;
        }

        /** The group that a control frame tells in its last three bytes. */
        int controlGroup() {
            return others >>> 8;
        }

        int byteAt(int place) {
            return place < 4 ? first >>> 8 * place & 255 : others >>> 8 * (place - 4) & 255;
        }

        boolean goesBefore(Frame other) {
            if (identifier != other.identifier) {
                return identifier < other.identifier;
            }
            for (int i = 0; i < FRAME_BYTES; i++) {
                if (byteAt(i) != other.byteAt(i)) {
                    return byteAt(i) < other.byteAt(i);
                }
            }
            return false;
        }
    }

    /** What all nodes of a bus share: the messages that were sent, and the chunks that no row has in use. */
    private static final class Store {
        private final ArrayList<Message> messages = new ArrayList<Message>();
        private Chunk unused = null;

        Message newMessage(int to, int group, int size, int seed) {
            Message made = new Message(messages.size(), to, group, size, seed);
            messages.add(made);
            return made;
        }

        Message newTelling(int[] troubles) {
            Message made = newMessage(TO_ALL, TROUBLE_GROUP, 2 + 4 * troubles.length, 0);
            made.troubles = troubles;
            return made;
        }

        Message messageAt(int index) {
            return index >= 0 && index < messages.size() ? messages.get(index) : null;
        }

        /** A chunk that was in use before, or null if there is none. */
        Chunk lend() {
            Chunk lent = unused;
            if (lent != null) {
                unused = lent.next;
                lent.next = null;
            }
            return lent;
        }

        /** Takes a chain of chunks back, in one step however long it is. */
        void takeBack(Chunk first, Chunk last) {
            last.next = unused;
            unused = first;
        }
    }

    /** A part of a row. Rows are chains of these: no row has a longest length, and none is ever copied. */
    private static final class Chunk {
        private static final int PLACES = 128;

        final long[] entries = new long[PLACES];
        Chunk next = null;
    }

    /**
     * The frames of a node that wait. An entry tells a frame, or the packets of one message that were
     * put at once, in one number: a run may leave hundreds of thousands of frames waiting, and
     * the room for all its calls is small.
     */
    private static final class Row {
        private final int high;
        private final int low;
        private final Store store;
        private Chunk head = null;
        private Chunk tail = null;
        private int headPlace = 0;
        private int tailPlace = 0;
        private int frames = 0;
        /** How many frames of the first entry were carried. */
        private int gone = 0;
        private boolean claimWaits = false;
        private final Frame first = new Frame();
        private boolean firstIsWritten = false;

        Row(int high, int low, Store store) {
            this.high = high;
            this.low = low;
            this.store = store;
        }

        int length() {
            return claimWaits ? frames + 1 : frames;
        }

        void putClaim() {
            if (!claimWaits) {
                claimWaits = true;
                firstIsWritten = false;
            }
        }

        /**
         * One more entry: a frame of that kind, or (kind PACKET) so many packets as second tells, from the
         * third on; what else second and third tell, Message.writeControl knows. A request is about none.
         */
        void put(Message about, int to, int kind, int second, int third) {
            if (tail == null || tailPlace >= Chunk.PLACES) {
                Chunk lent = store.lend();
                lengthen(lent == null ? new Chunk() : lent);
            }
            int index = about == null ? BAD : about.index;
            int what = to << 24 | (kind & 255) << 16 | (second & 255) << 8 | third & 255;
            if (tail != null && tailPlace >= 0 && tailPlace < tail.entries.length) {
                tail.entries[tailPlace] = (long) index << 32 | what & 4294967295L;
                tailPlace++;
                frames += kind == PACKET ? second : 1;
            }
        }

        private void lengthen(Chunk more) {
            if (tail == null) {
                head = more;
                headPlace = 0;
            } else {
                tail.next = more;
            }
            tail = more;
            tailPlace = 0;
        }

        private long firstEntry() {
            boolean isThere = head != null && headPlace >= 0 && headPlace < head.entries.length;
            return isThere ? head.entries[headPlace] : 0L;
        }

        /** The frame that stands first, of a node with that address; null if none waits. */
        Frame first(int address) {
            if (length() == 0) {
                return null;
            }
            if (!firstIsWritten) {
                writeFirst(address);
                firstIsWritten = true;
            }
            return first;
        }

        // No entry tells the source: a row is dropped whenever its node's address becomes another one.
        private void writeFirst(int address) {
            if (claimWaits) {
                first.write(6 << 26 | CLAIM << 16 | TO_ALL << 8 | address, low, high, null);
                return;
            }
            long entry = firstEntry();
            Message message = store.messageAt((int) (entry >> 32));
            int what = (int) entry;
            int to = what >>> 24;
            int kind = what >>> 16 & 255;
            if (message == null) {
                first.write(identifier(REQUEST, to, address), pack(0, CLAIM, 0, 255), -1, null);
            } else if (kind == SHORT) {
                message.writeShort(first, address);
            } else if (kind == PACKET) {
                message.writePacket(first, address, (what & 255) + gone);
            } else {
                message.writeControl(first, identifier(CONTROL, to, address), kind, what >>> 8 & 255, what & 255);
            }
        }

        void removeFirst() {
            firstIsWritten = false;
            if (claimWaits) {
                claimWaits = false;
            } else if (frames == 1) {
                clear();
            } else if (frames > 1) {
                frames--;
                removeFromFirstEntry();
            }
        }

        private void removeFromFirstEntry() {
            int what = (int) firstEntry();
            boolean isPackets = (what >>> 16 & 255) == PACKET;
            gone++;
            if (isPackets && gone < (what >>> 8 & 255)) {
                return;
            }
            gone = 0;
            headPlace++;
            if (headPlace >= Chunk.PLACES && head != null) {
                Chunk done = head;
                head = done.next;
                headPlace = 0;
                store.takeBack(done, done);
            }
        }

        void clear() {
            if (head != null && tail != null) {
                store.takeBack(head, tail);
            }
            head = null;
            tail = null;
            frames = 0;
            gone = 0;
            claimWaits = false;
            firstIsWritten = false;
        }
    }

    /** A message as it was sent: its bytes come from the seed, or from the troubles that it tells. */
    private static final class Message {
        final int index;
        final int to;
        final int group;
        final int size;
        private final int seed;
        int[] troubles = null;

        Message(int index, int to, int group, int size, int seed) {
            this.index = index;
            this.to = to;
            this.group = group;
            this.size = size;
            this.seed = seed;
        }

        void writeShort(Frame frame, int address) {
            boolean hasTo = (group >> 8 & 255) < FIRST_WITHOUT_TO;
            int identifier = 7 << 26 | group << 8 | (hasTo ? to << 8 : 0) | address;
            frame.write(identifier, fourFrom(0), fourFrom(4), this);
        }

        void writePacket(Frame frame, int address, int number) {
            int from = (number - 1) * PACKET_BYTES;
            int first = number & 255 | fourFrom(from) << 8;
            frame.write(identifier(PACKET, to, address), first, fourFrom(from + 3), this);
        }

        /** 17 and 255 tell what was told them and 255; the others the size, the packets, and the window or 255. */
        void writeControl(Frame frame, int identifier, int kind, int second, int third) {
            boolean tellsSize = kind != CLEARED && kind != BROKEN_OFF;
            int first = tellsSize ? pack(kind, size, size >> 8, packets()) : pack(kind, second, third, 255);
            int fifth = tellsSize ? second : 255;
            frame.write(identifier, first, fifth | group << 8, this);
        }

        int packets() {
            return (size + PACKET_BYTES - 1) / PACKET_BYTES;
        }

        /** Four bytes from a place on, as one number. */
        int fourFrom(int place) {
            return pack(byteAt(place), byteAt(place + 1), byteAt(place + 2), byteAt(place + 3));
        }

        /** A byte of the message; 255 behind its end. */
        int byteAt(int place) {
            if (place < 0 || place >= size) {
                return 255;
            }
            if (troubles == null) {
                return seed + place * place + place / 256 & 255;
            }
            if (place == 0) {
                return troubles.length == 0 ? 0 : SOME_TROUBLE;
            }
            int which = (place - 2) / 4;
            if (place == 1 || which >= troubles.length) {
                return 255;
            }
            return troubles[which] >>> 8 * ((place - 2) % 4) & 255;
        }
    }

    /** What a node sends, or sent last. */
    private static final class Sending {
        int state = 0;
        int nextPacket = 1;
        int due = 0;
        Message whole = null;

        /** Whether what a node with that address tells of that group concerns this. */
        boolean goesTo(int address, int group) {
            return state == UNDER_WAY && whole != null && whole.to == address && whole.group == group;
        }
    }

    /** A message on its way to a node: one that it gets, or one to all that it collects. */
    private static final class Transport {
        boolean open = false;
        int source = 0;
        int group = 0;
        int size = 0;
        int packets = 0;
        int window = 0;
        int expected = 1;
        int clearedTo = 0;
        int lastHeard = 0;
        int waits = 0;
        /** The sum of each byte that came times its number from 1 on. */
        int sum = 0;
        boolean isAsSent = true;
        Message whole = null;
        /** Only these bytes are kept: the troubles, if it tells some. */
        private final int[] beginning = new int[2 + 4 * MOST_TROUBLES];

        void begin(Frame frame, int time) {
            open = true;
            source = frame.source();
            group = frame.controlGroup();
            size = frame.byteAt(1) | frame.byteAt(2) << 8;
            packets = frame.byteAt(3);
            window = frame.byteAt(4);
            expected = 1;
            clearedTo = 0;
            lastHeard = time;
            waits = 0;
            sum = 0;
            whole = frame.whole;
            isAsSent = whole != null && whole.size == size && whole.group == group;
        }

        void takePacket(Frame frame, int time) {
            int from = (expected - 1) * PACKET_BYTES;
            for (int i = 0; i < PACKET_BYTES && from + i < size; i++) {
                takeByte(from + i, frame.byteAt(i + 1));
            }
            expected++;
            lastHeard = time;
        }

        private void takeByte(int place, int value) {
            sum += value * (place + 1);
            if (whole == null || whole.byteAt(place) != value) {
                isAsSent = false;
            }
            if (place >= 0 && place < beginning.length) {
                beginning[place] = value;
            }
        }

        boolean isWhole() {
            return expected > packets;
        }

        /** One of the first bytes; 0 behind those that are kept. */
        int byteAt(int place) {
            return place < 0 || place >= beginning.length ? 0 : beginning[place];
        }
    }

    /** Which name (told by its node's number) has which address, by the claims that came. */
    private static final class Table {
        private final int[] addresses = new int[MOST_NODES];

        Table() {
            clear();
        }

        void clear() {
            for (int i = 0; i < MOST_NODES; i++) {
                addresses[i] = BAD;
            }
        }

        void learn(int name, int address) {
            for (int i = 0; i < MOST_NODES; i++) {
                if (i == name) {
                    addresses[i] = address == NO_ADDRESS ? BAD : address;
                } else if (addresses[i] == address) {
                    addresses[i] = BAD;
                }
            }
        }

        int nameAt(int address) {
            for (int i = 0; i < MOST_NODES; i++) {
                if (addresses[i] == address) {
                    return i;
                }
            }
            return BAD;
        }
    }

    /** What came to a node: its first messages, and the troubles of each source. */
    private static final class Inbox {
        private static final int MOST_LOGGED = 20;
        private static final int ENTRIES = 4;

        int came = 0;
        boolean gotAnotherThanSent = false;
        private final int[] log = new int[MOST_LOGGED * ENTRIES];
        /** Of each source how many troubles (BAD: none was told), and behind it the troubles. */
        private final int[][] troubles = new int[MOST_SOURCES][];

        void takeFrame(Frame frame) {
            int sum = 0;
            for (int i = 0; i < FRAME_BYTES; i++) {
                sum += frame.byteAt(i) * (i + 1);
            }
            enter(frame.source(), frame.group(), FRAME_BYTES, sum);
            int[] list = frame.group() == TROUBLE_GROUP ? listOf(frame.source()) : null;
            if (list != null && list.length > 1) {
                list[0] = frame.byteAt(0) == SOME_TROUBLE ? 1 : 0;
                list[1] = pack(frame.byteAt(2), frame.byteAt(3), frame.byteAt(4), frame.byteAt(5));
            }
        }

        void takeMessage(Transport from) {
            enter(from.source, from.group, from.size, from.sum);
            if (!from.isAsSent) {
                gotAnotherThanSent = true;
            }
            int[] list = from.group == TROUBLE_GROUP ? listOf(from.source) : null;
            if (list != null) {
                keepTroubles(list, from);
            }
        }

        private void keepTroubles(int[] list, Transport from) {
            int many = Math.max(0, Math.min((from.size - 2) / 4, MOST_TROUBLES));
            for (int k = 0; k < many && k + 1 < list.length; k++) {
                int at = 2 + 4 * k;
                list[k + 1] = pack(from.byteAt(at), from.byteAt(at + 1), from.byteAt(at + 2), from.byteAt(at + 3));
            }
            if (list.length > 0) {
                list[0] = many;
            }
        }

        private void enter(int source, int group, int size, int sum) {
            int at = came * ENTRIES;
            if (came < MOST_LOGGED && at >= 0 && at + 3 < log.length) {
                log[at] = source;
                log[at + 1] = group;
                log[at + 2] = size;
                log[at + 3] = sum;
            }
            came++;
        }

        private int[] listOf(int source) {
            if (source < 0 || source >= MOST_SOURCES) {
                return null;
            }
            if (troubles[source] == null) {
                troubles[source] = new int[MOST_TROUBLES + 1];
            }
            return troubles[source];
        }

        void forgetTroubles() {
            for (int[] list : troubles) {
                if (list != null && list.length > 0) {
                    list[0] = BAD;
                }
            }
        }

        int logged(int k, int what) {
            if (k < 0 || k >= MOST_LOGGED || k >= came || what < 0 || what >= ENTRIES) {
                return BAD;
            }
            return log[k * ENTRIES + what];
        }

        int keptTrouble(int source, int k, int what) {
            int[] list = source < 0 || source >= MOST_SOURCES ? null : troubles[source];
            if (list == null || k < -1 || k + 1 >= list.length) {
                return BAD;
            }
            if (k == -1) {
                return list[0];
            }
            if (k >= list[0]) {
                return BAD;
            }
            int trouble = list[k + 1];
            switch (what) {
                case 0: return (trouble & 65535) | (trouble >>> 21 & 7) << 16;
                case 1: return trouble >>> 16 & 31;
                case 2: return trouble >>> 24;
                default: return BAD;
            }
        }
    }

    /** A node: its name, its claim to an address, and what it sends, gets, collects and keeps. */
    private static final class Node {
        final int high;
        final int low;
        final int wanted;
        private final boolean free;
        private final int window;
        final Row row;
        final Table table = new Table();
        final Sending sending = new Sending();
        final Inbox inbox = new Inbox();
        private final Transport[] gets = new Transport[MOST_GETS];
        private final ArrayList<Transport> collects = new ArrayList<Transport>();
        private final int[] troubles = new int[MOST_TROUBLES];
        private int troubleCount = 0;
        int state = OFF;
        int address;
        private int claimCarriedAt = NEVER;
        int toLose = 0;
        int lost = 0;

        Node(int high, int low, int wanted, boolean free, int window, Store store) {
            this.high = high;
            this.low = low;
            this.wanted = wanted;
            this.free = free;
            this.window = window;
            this.address = wanted;
            this.row = new Row(high, low, store);
        }

        boolean sharesAddressWith(Node other) {
            return state == HAS && other.state == HAS && address == other.address;
        }

        int openTransports() {
            int many = 0;
            for (Transport one : gets) {
                if (one != null && one.open) {
                    many++;
                }
            }
            for (int i = 0; i < collects.size(); i++) {
                if (collects.get(i).open) {
                    many++;
                }
            }
            return many;
        }

        int addTrouble(int spn, int fmi, int oc) {
            if (troubleCount >= MOST_TROUBLES) {
                return BAD;
            }
            troubles[troubleCount] = pack(spn, spn >> 8, spn >> 16 << 5 | fmi, oc);
            troubleCount++;
            return troubleCount;
        }

        /** A copy, since a trouble may be added while the message that tells them is under way. */
        int[] copyOfTroubles() {
            int[] told = new int[troubleCount];
            for (int i = 0; i < told.length && i < troubles.length; i++) {
                told[i] = troubles[i];
            }
            return told;
        }

        void claimAddress(int wish) {
            address = wish;
            state = CLAIMING;
            // the wait of 250 begins only when the claim to this very address is carried
            claimCarriedAt = NEVER;
            row.putClaim();
        }

        void turnOff() {
            dropAll();
            table.clear();
            inbox.forgetTroubles();
            state = OFF;
            address = wanted;
        }

        private void dropAll() {
            row.clear();
            if (sending.state == UNDER_WAY) {
                sending.state = FAILED;
            }
            for (Transport one : gets) {
                if (one != null) {
                    one.open = false;
                }
            }
            for (int i = 0; i < collects.size(); i++) {
                collects.get(i).open = false;
            }
        }

        boolean maySend() {
            return state == HAS && sending.state != UNDER_WAY;
        }

        void beginSending(Message whole, int time) {
            sending.whole = whole;
            sending.nextPacket = 1;
            if (whole.size <= FRAME_BYTES) {
                row.put(whole, whole.to, SHORT, 0, 0);
                sending.state = DONE;
                return;
            }
            if (whole.to == TO_ALL) {
                row.put(whole, TO_ALL, TO_ALL_FOLLOWS, 255, 0);
                sending.due = time + PACKET_PACE;
            } else {
                row.put(whole, whole.to, WANTS_TO_SEND, window, 0);
                sending.due = time + ANSWER_WAIT;
            }
            sending.state = UNDER_WAY;
        }

        void frameWasCarried(boolean isClaim, int time) {
            row.removeFirst();
            if (isClaim) {
                claimCarriedAt = time;
            }
        }

        /** The first millisecond in which a timer of this node has something to say. */
        int nextTimer() {
            int next = FAR;
            if (state == CLAIMING && claimCarriedAt != NEVER) {
                next = claimCarriedAt + CLAIM_WAIT;
            }
            if (sending.state == UNDER_WAY) {
                next = Math.min(next, sending.due);
            }
            for (int i = 0; i < collects.size(); i++) {
                if (collects.get(i).open) {
                    next = Math.min(next, collects.get(i).lastHeard + COLLECT_WAIT);
                }
            }
            for (Transport one : gets) {
                if (one != null && one.open) {
                    next = Math.min(next, one.lastHeard + ANSWER_WAIT);
                }
            }
            return next;
        }

        void runTimers(int time) {
            if (state == CLAIMING && claimCarriedAt != NEVER && time - claimCarriedAt >= CLAIM_WAIT) {
                state = HAS;
            }
            if (sending.state == UNDER_WAY && time >= sending.due) {
                sendOn(time);
            }
            for (int i = 0; i < collects.size(); i++) {
                Transport one = collects.get(i);
                if (one.open && time - one.lastHeard >= COLLECT_WAIT) {
                    one.open = false;
                }
            }
            for (Transport one : gets) {
                if (one != null && one.open && time - one.lastHeard >= ANSWER_WAIT) {
                    waitedTooLong(one, time);
                }
            }
        }

        private void sendOn(int time) {
            Message whole = sending.whole;
            if (whole == null) {
                return;
            }
            if (whole.to != TO_ALL) {
                breakOff(whole, whole.to, WHY_TIME);
                sending.state = FAILED;
                return;
            }
            row.put(whole, TO_ALL, PACKET, 1, sending.nextPacket);
            sending.nextPacket++;
            sending.due = time + PACKET_PACE;
            if (sending.nextPacket > whole.packets()) {
                sending.state = DONE;
            }
        }

        private void waitedTooLong(Transport got, int time) {
            got.waits++;
            if (got.waits < 3) {
                clearNext(got, time);
            } else {
                breakOff(got.whole, got.source, WHY_TIME);
                got.open = false;
            }
        }

        private void breakOff(Message whole, int to, int why) {
            row.put(whole, to, BROKEN_OFF, why, 255);
        }

        private void clearNext(Transport got, int time) {
            int left = got.packets - got.expected + 1;
            int many = Math.min(Math.min(window, got.window), left);
            got.clearedTo = got.expected + many - 1;
            got.lastHeard = time;
            row.put(got.whole, got.source, CLEARED, many, got.expected);
        }

        /** A frame of another node comes to this one, which is on. */
        void hear(Frame frame, int sender, int time) {
            if (toLose > 0) {
                toLose--;
                lost++;
            } else if (frame.isOf(CLAIM)) {
                hearClaim(frame, sender);
            } else if (!frame.isFor(address)) {
                return;
            } else if (frame.isOf(REQUEST)) {
                row.putClaim();
            } else if (state != HAS) {
                return;
            } else if (frame.isOf(CONTROL)) {
                hearControl(frame, time);
            } else if (!frame.isOf(PACKET)) {
                inbox.takeFrame(frame);
            } else if (frame.isForAll()) {
                collectPacket(frame, time);
            } else {
                getPacket(frame, time);
            }
        }

        private void hearClaim(Frame frame, int sender) {
            table.learn(sender, frame.source());
            boolean hasOne = state == CLAIMING || state == HAS;
            if (!hasOne || frame.source() != address) {
                return;
            }
            if (goesBeforeName(frame.others, frame.first)) {
                row.putClaim();
                return;
            }
            dropAll();
            int next = free ? nextFreeAddress() : NO_ADDRESS;
            if (next == NO_ADDRESS) {
                state = NONE;
                address = NO_ADDRESS;
                row.putClaim();
            } else {
                claimAddress(next);
            }
        }

        private boolean goesBeforeName(int otherHigh, int otherLow) {
            return high != otherHigh ? isLess(high, otherHigh) : isLess(low, otherLow);
        }

        /** The first address behind the own one that the table does not have; the own one last. */
        private int nextFreeAddress() {
            boolean isWithin = address >= FIRST_FREE && address < FIRST_FREE + FREE_ADDRESSES;
            int from = isWithin ? address - FIRST_FREE + 1 : 0;
            for (int i = 0; i < FREE_ADDRESSES; i++) {
                int next = FIRST_FREE + (from + i) % FREE_ADDRESSES;
                if (table.nameAt(next) == BAD) {
                    return next;
                }
            }
            return NO_ADDRESS;
        }

        private void hearControl(Frame frame, int time) {
            int source = frame.source();
            int group = frame.controlGroup();
            boolean isMine = sending.goesTo(source, group);
            switch (frame.byteAt(0)) {
                case WANTS_TO_SEND:
                    Transport got = placeFor(source);
                    if (got == null) {
                        breakOff(frame.whole, source, WHY_NO_PLACE);
                    } else {
                        got.begin(frame, time);
                        clearNext(got, time);
                    }
                    break;
                case TO_ALL_FOLLOWS:
                    beginCollecting(frame, time);
                    break;
                case CLEARED:
                    if (isMine) {
                        sendCleared(frame.byteAt(1), frame.byteAt(2), time);
                    }
                    break;
                case ALL_CAME:
                    if (isMine) {
                        sending.state = DONE;
                    }
                    break;
                case BROKEN_OFF:
                    if (isMine) {
                        sending.state = FAILED;
                    }
                    dropGot(source, group);
                    break;
                default:
                    break;
            }
        }

        private void sendCleared(int many, int from, int time) {
            Message whole = sending.whole;
            if (whole != null && many > 0) {
                row.put(whole, whole.to, PACKET, many, from);
            }
            sending.due = time + ANSWER_WAIT;
        }

        private void dropGot(int source, int group) {
            Transport got = gotFrom(source);
            if (got != null && got.group == group) {
                got.open = false;
            }
        }

        private Transport gotFrom(int source) {
            for (Transport one : gets) {
                if (one != null && one.open && one.source == source) {
                    return one;
                }
            }
            return null;
        }

        /** Where to get what that source wants to send: in its place that it has, or the first free one. */
        private Transport placeFor(int source) {
            Transport got = gotFrom(source);
            for (int i = 0; got == null && i < MOST_GETS; i++) {
                if (gets[i] == null) {
                    gets[i] = new Transport();
                }
                got = gets[i].open ? null : gets[i];
            }
            return got;
        }

        private void getPacket(Frame frame, int time) {
            Transport got = gotFrom(frame.source());
            if (got == null || frame.byteAt(0) != got.expected) {
                return;
            }
            got.takePacket(frame, time);
            if (got.isWhole()) {
                row.put(got.whole, got.source, ALL_CAME, 255, 0);
                got.open = false;
                inbox.takeMessage(got);
            } else if (got.expected > got.clearedTo) {
                clearNext(got, time);
            }
        }

        private Transport collectedFrom(int source) {
            for (int i = 0; i < collects.size(); i++) {
                Transport one = collects.get(i);
                if (one.open && one.source == source) {
                    return one;
                }
            }
            return null;
        }

        private void beginCollecting(Frame frame, int time) {
            Transport one = collectedFrom(frame.source());
            for (int i = 0; one == null && i < collects.size(); i++) {
                one = collects.get(i).open ? null : collects.get(i);
            }
            if (one == null && collects.size() < MOST_SOURCES) {
                one = new Transport();
                collects.add(one);
            }
            if (one != null) {
                one.begin(frame, time);
            }
        }

        private void collectPacket(Frame frame, int time) {
            Transport one = collectedFrom(frame.source());
            if (one == null) {
                return;
            }
            if (frame.byteAt(0) != one.expected) {
                one.open = false;
                return;
            }
            one.takePacket(frame, time);
            if (one.isWhole()) {
                one.open = false;
                inbox.takeMessage(one);
            }
        }
    }
}
