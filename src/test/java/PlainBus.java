import java.util.ArrayList;
import java.util.Arrays;
import java.util.HashMap;
import java.util.LinkedList;
import java.util.List;
import java.util.Map;
import java.util.TreeMap;

/**
 * The document read a second time, as plainly as can be: bytes in arrays, frames as objects, every
 * millisecond gone through. AgainstPlainBusTest compares ClaimBus with it.
 */
final class PlainBus {
    static final class Sent {
        int group;
        int[] bytes;
    }

    static final class Frm {
        int priority = 7;
        int page;
        int format;
        int specific;
        int source;
        int[] bytes = new int[8];
        Sent sent;

        long id() {
            return ((((long) priority * 4 + page) * 256 + format) * 256 + specific) * 256 + source;
        }

        boolean toAll() {
            return format >= 240 || specific == 255;
        }

        int group() {
            return (page * 256 + format) * 256 + (format < 240 ? 0 : specific);
        }
    }

    static final class In {
        int source;
        int group;
        int size;
        int packets;
        int window;
        int next = 1;
        int cleared;
        int at;
        int waits;
        List<Integer> bytes = new ArrayList<>();
        Sent sent;
    }

    static final class Out {
        int to;
        int window;
        int put;
        int at;
        Sent sent;

        int packets() {
            return (sent.bytes.length + 6) / 7;
        }
    }

    static final class Nd {
        long name;
        int wanted;
        int address;
        boolean free;
        int window;
        int state;
        int claimAt = -1;
        int sentState;
        Out out;
        LinkedList<Frm> row = new LinkedList<>();
        In[] gets = new In[3];
        TreeMap<Integer, In> collects = new TreeMap<>();
        Map<Long, Integer> table = new HashMap<>();
        List<int[]> troubles = new ArrayList<>();
        Map<Integer, List<int[]>> kept = new HashMap<>();
        List<int[]> came = new ArrayList<>();
        int toLose;
        int lost;
    }

    final List<Nd> nodes = new ArrayList<>();
    int time;
    int carriedMany;
    Frm last;
    int lastNode = -1;
    boolean disturbed;
    boolean untrue;

    private boolean there(int n) {
        return n >= 0 && n < nodes.size();
    }

    int node(int high, int low, int address, boolean free, int window) {
        long name = ((long) high << 32) | (low & 0xFFFFFFFFL);
        for (Nd n : nodes) {
            if (n.name == name) {
                return -1;
            }
        }
        if (address < 0 || address > 247 || window < 1 || window > 16 || nodes.size() == 8) {
            return -1;
        }
        Nd n = new Nd();
        n.name = name;
        n.wanted = address;
        n.address = address;
        n.free = free;
        n.window = window;
        nodes.add(n);
        return nodes.size() - 1;
    }

    boolean start(int i) {
        if (!there(i) || nodes.get(i).state != 0) {
            return false;
        }
        Nd n = nodes.get(i);
        n.state = 1;
        n.claimAt = -1;
        claim(n);
        return true;
    }

    boolean stop(int i) {
        if (!there(i) || nodes.get(i).state == 0) {
            return false;
        }
        Nd n = nodes.get(i);
        drop(n);
        n.table.clear();
        n.kept.clear();
        n.address = n.wanted;
        n.state = 0;
        disturbed = true;
        return true;
    }

    private void drop(Nd n) {
        n.row.clear();
        if (n.out != null) {
            n.out = null;
            n.sentState = 3;
        }
        n.gets = new In[3];
        n.collects.clear();
    }

    private void claim(Nd n) {
        if (!n.row.isEmpty() && n.row.getFirst().priority == 6) {
            return;
        }
        Frm f = new Frm();
        f.priority = 6;
        f.format = 238;
        f.specific = 255;
        f.source = n.state == 3 ? 254 : n.address;
        for (int i = 0; i < 8; i++) {
            f.bytes[i] = (int) (n.name >>> 8 * i) & 255;
        }
        n.row.addFirst(f);
    }

    private Frm put(Nd n, int format, int to, Sent sent, int... bytes) {
        Frm f = new Frm();
        f.format = format;
        f.specific = to;
        f.source = n.address;
        f.sent = sent;
        f.bytes = bytes;
        n.row.addLast(f);
        return f;
    }

    private void control(Nd n, int to, int group, Sent sent, int a, int b, int c, int d, int e) {
        put(n, 236, to, sent, a, b, c, d, e, group & 255, group >> 8 & 255, group >> 16);
    }

    private void packet(Nd n, int number) {
        int[] bytes = new int[8];
        Arrays.fill(bytes, 255);
        bytes[0] = number & 255;
        for (int i = 0; i < 7; i++) {
            int at = (number - 1) * 7 + i;
            if (at < n.out.sent.bytes.length) {
                bytes[i + 1] = n.out.sent.bytes[at];
            }
        }
        put(n, 235, n.out.to, n.out.sent, bytes);
    }

    boolean request(int i, int to) {
        if (!there(i) || nodes.get(i).state != 2 || to < 0 || to == 254 || to > 255) {
            return false;
        }
        put(nodes.get(i), 234, to, null, 0, 238, 0, 255, 255, 255, 255, 255);
        return true;
    }

    boolean send(int i, int to, int group, int size, int seed) {
        if (size < 1 || size > 1785 || group < 0 || group > 262143) {
            return false;
        }
        int format = group / 256 % 256;
        if (format < 240 && group % 256 != 0) {
            return false;
        }
        if (group < 65536 && (format == 234 || format == 235 || format == 236 || format == 238)) {
            return false;
        }
        if (to < 0 || to == 254 || to > 255 || (format >= 240 && to != 255)) {
            return false;
        }
        int[] bytes = new int[size];
        for (int k = 0; k < size; k++) {
            bytes[k] = (int) (((long) seed + k * k + k / 256) & 255);
        }
        return sendBytes(i, to, group, bytes);
    }

    private boolean sendBytes(int i, int to, int group, int[] bytes) {
        if (!there(i) || nodes.get(i).state != 2 || nodes.get(i).out != null) {
            return false;
        }
        Nd n = nodes.get(i);
        Sent s = new Sent();
        s.group = group;
        s.bytes = bytes;
        if (bytes.length <= 8) {
            int[] eight = new int[8];
            Arrays.fill(eight, 255);
            System.arraycopy(bytes, 0, eight, 0, bytes.length);
            int format = group / 256 % 256;
            Frm f = put(n, format, format < 240 ? to : group % 256, s, eight);
            f.page = group / 65536;
            n.sentState = 2;
            return true;
        }
        n.out = new Out();
        n.out.sent = s;
        n.out.to = to;
        n.out.at = time;
        n.sentState = 1;
        int kind = to == 255 ? 32 : 16;
        control(n, to, group, s, kind, bytes.length % 256, bytes.length / 256, n.out.packets(), to == 255 ? 255 : n.window);
        return true;
    }

    int trouble(int i, int spn, int fmi, int oc) {
        if (!there(i) || spn < 0 || spn >= 1 << 19 || fmi < 0 || fmi >= 32 || oc < 0 || oc >= 128) {
            return -1;
        }
        List<int[]> list = nodes.get(i).troubles;
        if (list.size() == 10) {
            return -1;
        }
        list.add(new int[] {spn, fmi, oc});
        return list.size();
    }

    boolean tell(int i) {
        if (!there(i)) {
            return false;
        }
        List<int[]> list = nodes.get(i).troubles;
        int[] bytes = new int[2 + 4 * list.size()];
        bytes[0] = list.isEmpty() ? 0 : 64;
        bytes[1] = 255;
        for (int k = 0; k < list.size(); k++) {
            int[] t = list.get(k);
            bytes[2 + 4 * k] = t[0] % 256;
            bytes[3 + 4 * k] = t[0] / 256 % 256;
            bytes[4 + 4 * k] = t[0] / 65536 * 32 + t[1];
            bytes[5 + 4 * k] = t[2];
        }
        return sendBytes(i, 255, 65226, bytes);
    }

    boolean lose(int i, int frames) {
        if (!there(i) || frames < 0 || frames > 50) {
            return false;
        }
        nodes.get(i).toLose = frames;
        return true;
    }

    int pass(int milliseconds) {
        if (milliseconds < 1 || milliseconds > 5000) {
            return -1;
        }
        for (int m = 0; m < milliseconds; m++) {
            time++;
            for (Nd n : nodes) {
                timers(n);
            }
            carry();
        }
        return time;
    }

    private void timers(Nd n) {
        if (n.state == 1 && n.claimAt >= 0 && time == n.claimAt + 250) {
            n.state = 2;
        }
        if (n.out != null && n.out.to == 255 && time == n.out.at + 50) {
            n.out.put++;
            packet(n, n.out.put);
            n.out.at = time;
            if (n.out.put == n.out.packets()) {
                n.out = null;
                n.sentState = 2;
            }
        } else if (n.out != null && n.out.to != 255 && time == n.out.at + 1250) {
            control(n, n.out.to, n.out.sent.group, null, 255, 3, 255, 255, 255);
            n.out = null;
            n.sentState = 3;
        }
        n.collects.values().removeIf(c -> time == c.at + 750);
        for (int p = 0; p < 3; p++) {
            In g = n.gets[p];
            if (g != null && time == g.at + 1250) {
                g.waits++;
                if (g.waits == 3) {
                    control(n, g.source, g.group, null, 255, 3, 255, 255, 255);
                    n.gets[p] = null;
                } else {
                    clear(n, g);
                }
            }
        }
    }

    private void clear(Nd n, In g) {
        int many = Math.min(n.window, Math.min(g.window, g.packets - g.next + 1));
        g.cleared = g.next + many - 1;
        g.at = time;
        control(n, g.source, g.group, null, 17, many, g.next, 255, 255);
    }

    private static boolean less(Frm a, Frm b) {
        if (a.id() != b.id()) {
            return a.id() < b.id();
        }
        return Arrays.compare(a.bytes, b.bytes) < 0;
    }

    private void carry() {
        int which = -1;
        for (int i = 0; i < nodes.size(); i++) {
            LinkedList<Frm> row = nodes.get(i).row;
            if (!row.isEmpty() && (which < 0 || less(row.getFirst(), nodes.get(which).row.getFirst()))) {
                which = i;
            }
        }
        if (which < 0) {
            return;
        }
        Nd sender = nodes.get(which);
        Frm f = sender.row.removeFirst();
        last = f;
        lastNode = which;
        carriedMany++;
        if (f.priority == 6) {
            sender.claimAt = time;
        }
        for (Nd n : nodes) {
            if (n == sender || n.state == 0) {
                continue;
            }
            if (n.toLose > 0) {
                n.toLose--;
                n.lost++;
                disturbed = true;
            } else {
                hear(n, f);
            }
        }
    }

    private void hear(Nd n, Frm f) {
        if (f.page == 0 && f.format == 238) {
            hearClaim(n, f);
            return;
        }
        int own = n.state == 3 ? 254 : n.address;
        if (!f.toAll() && f.specific != own) {
            return;
        }
        if (f.page == 0 && f.format == 234) {
            claim(n);
        } else if (n.state == 2) {
            if (f.page == 0 && f.format == 236) {
                hearControl(n, f);
            } else if (f.page == 0 && f.format == 235) {
                hearPacket(n, f);
            } else {
                message(n, f.source, f.group(), f.bytes, true);
            }
        }
    }

    private void hearClaim(Nd n, Frm f) {
        long name = 0;
        for (int i = 7; i >= 0; i--) {
            name = name << 8 | f.bytes[i];
        }
        n.table.values().removeIf(a -> a == f.source);
        n.table.remove(name);
        if (f.source != 254) {
            n.table.put(name, f.source);
        }
        if ((n.state != 1 && n.state != 2) || f.source != n.address) {
            return;
        }
        if (Long.compareUnsigned(n.name, name) < 0) {
            claim(n);
            return;
        }
        drop(n);
        int next = -1;
        if (n.free) {
            int a = n.address >= 128 && n.address <= 247 ? n.address : 247;
            for (int k = 0; k < 120 && next < 0; k++) {
                a = a == 247 ? 128 : a + 1;
                if (!n.table.containsValue(a)) {
                    next = a;
                }
            }
        }
        n.claimAt = -1;
        n.state = next < 0 ? 3 : 1;
        n.address = next < 0 ? 254 : next;
        claim(n);
    }

    private void hearControl(Nd n, Frm f) {
        int[] b = f.bytes;
        int group = b[5] + 256 * b[6] + 65536 * b[7];
        boolean mine = n.out != null && n.out.to == f.source && n.out.sent.group == group;
        if (b[0] == 32) {
            n.collects.put(f.source, in(f, group));
        } else if (b[0] == 16) {
            int place = -1;
            for (int p = 2; p >= 0; p--) {
                if (n.gets[p] == null) {
                    place = p;
                }
            }
            for (int p = 0; p < 3; p++) {
                if (n.gets[p] != null && n.gets[p].source == f.source) {
                    place = p;
                }
            }
            if (place < 0) {
                control(n, f.source, group, null, 255, 2, 255, 255, 255);
            } else {
                n.gets[place] = in(f, group);
                clear(n, n.gets[place]);
            }
        } else if (b[0] == 17 && mine) {
            for (int k = 0; k < b[1]; k++) {
                packet(n, b[2] + k);
            }
            n.out.at = time;
        } else if (b[0] == 19 && mine) {
            n.out = null;
            n.sentState = 2;
        } else if (b[0] == 255) {
            if (mine) {
                n.out = null;
                n.sentState = 3;
            }
            for (int p = 0; p < 3; p++) {
                if (n.gets[p] != null && n.gets[p].source == f.source && n.gets[p].group == group) {
                    n.gets[p] = null;
                }
            }
        }
    }

    private In in(Frm f, int group) {
        In g = new In();
        g.source = f.source;
        g.group = group;
        g.size = f.bytes[1] + 256 * f.bytes[2];
        g.packets = f.bytes[3];
        g.window = f.bytes[4];
        g.at = time;
        g.sent = f.sent;
        return g;
    }

    private boolean taken(In g, Frm f) {
        for (int i = 1; i < 8; i++) {
            if (g.bytes.size() < g.size) {
                g.bytes.add(f.bytes[i]);
            }
        }
        g.next++;
        g.at = time;
        return g.next > g.packets;
    }

    private void hearPacket(Nd n, Frm f) {
        if (f.toAll()) {
            In c = n.collects.get(f.source);
            if (c != null && f.bytes[0] != c.next) {
                n.collects.remove(f.source);
            } else if (c != null && taken(c, f)) {
                n.collects.remove(f.source);
                whole(n, c);
            }
            return;
        }
        for (int p = 0; p < 3; p++) {
            In g = n.gets[p];
            if (g == null || g.source != f.source || f.bytes[0] != g.next) {
                continue;
            }
            if (taken(g, f)) {
                n.gets[p] = null;
                control(n, g.source, g.group, null, 19, g.size % 256, g.size / 256, g.packets, 255);
                whole(n, g);
            } else if (g.next > g.cleared) {
                clear(n, g);
            }
        }
    }

    private void whole(Nd n, In g) {
        int[] bytes = g.bytes.stream().mapToInt(x -> x).toArray();
        if (g.sent.group != g.group || !Arrays.equals(bytes, g.sent.bytes)) {
            untrue = true;
        }
        message(n, g.source, g.group, bytes, false);
    }

    private void message(Nd n, int source, int group, int[] bytes, boolean oneFrame) {
        int sum = 0;
        for (int i = 0; i < bytes.length; i++) {
            sum += bytes[i] * (i + 1);
        }
        n.came.add(new int[] {source, group, bytes.length, sum});
        if (group == 65226) {
            List<int[]> list = new ArrayList<>();
            int many = oneFrame ? (bytes[0] == 64 ? 1 : 0) : Math.min(10, (bytes.length - 2) / 4);
            for (int k = 0; k < many; k++) {
                int b = 2 + 4 * k;
                int spn = bytes[b] + 256 * bytes[b + 1] + 65536 * (bytes[b + 2] / 32);
                list.add(new int[] {spn, bytes[b + 2] % 32, bytes[b + 3]});
            }
            n.kept.put(source, list);
        }
    }

    int told(int i, int what) {
        if (!there(i)) {
            return -1;
        }
        Nd n = nodes.get(i);
        int open = n.collects.size();
        for (In g : n.gets) {
            open += g == null ? 0 : 1;
        }
        int[] all = {n.state, n.state == 3 ? 254 : n.address, n.row.size(), n.sentState, n.came.size(), open, n.lost};
        return what < 0 || what > 6 ? -1 : all[what];
    }

    int table(int i, int address) {
        if (there(i)) {
            for (Map.Entry<Long, Integer> e : nodes.get(i).table.entrySet()) {
                for (int k = 0; k < nodes.size(); k++) {
                    if (e.getValue() == address && nodes.get(k).name == e.getKey()) {
                        return k;
                    }
                }
            }
        }
        return -1;
    }

    int message(int i, int k, int what) {
        if (!there(i) || k < 0 || k >= 20 || k >= nodes.get(i).came.size() || what < 0 || what > 3) {
            return -1;
        }
        return nodes.get(i).came.get(k)[what];
    }

    int kept(int i, int source, int k, int what) {
        if (!there(i) || !nodes.get(i).kept.containsKey(source)) {
            return -1;
        }
        List<int[]> list = nodes.get(i).kept.get(source);
        if (k == -1) {
            return list.size();
        }
        return k < 0 || k >= list.size() || what < 0 || what > 2 ? -1 : list.get(k)[what];
    }

    int carried(int what) {
        if (what == 3) {
            return lastNode;
        }
        if (last == null || what < 0 || what > 3) {
            return 0;
        }
        if (what == 0) {
            return (int) last.id();
        }
        int four = 0;
        for (int i = 3; i >= 0; i--) {
            four = four << 8 | last.bytes[(what - 1) * 4 + i];
        }
        return four;
    }

    boolean sound() {
        if (disturbed) {
            return true;
        }
        for (Nd a : nodes) {
            for (Nd b : nodes) {
                if (a != b && a.state == 2 && b.state == 2 && a.address == b.address) {
                    return false;
                }
            }
        }
        return !untrue;
    }

    int count(int what) {
        int has = 0;
        for (Nd n : nodes) {
            has += n.state == 2 ? 1 : 0;
        }
        int[] all = {nodes.size(), time, carriedMany, has};
        return what < 0 || what > 3 ? -1 : all[what];
    }
}
