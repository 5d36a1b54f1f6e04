import java.util.ArrayList;
import java.util.Arrays;
import java.util.HashMap;
import java.util.List;
import java.util.Map;
import java.util.NoSuchElementException;
import java.util.TreeMap;

/**
 * The document once more, written apart from the program and with the Java library, for tests that compare
 * the two. It takes the plainest way everywhere: whole copies, whole runs, no caches.
 */
final class Model {
    List<Integer> tape = new ArrayList<>();
    Atr atr;
    int repeats = 1;
    Link link = new Link(32);

    static final class Atr {
        int ts, fi = 1, di = 1, guard, first, groups, room = 32, check;
        List<Integer> hist = new ArrayList<>();
    }

    static final class Bad extends Exception {
        private static final long serialVersionUID = 1;
        final int code;

        Bad(int place, int kind) {
            code = -2 - (8 * place + kind);
        }
    }

    static int next(List<Integer> bytes, int place) throws Bad {
        if (place >= bytes.size()) {
            throw new Bad(bytes.size(), 1);
        }
        return bytes.get(place);
    }

    static final List<Integer> F_GOOD = List.of(0, 1, 2, 3, 4, 5, 6, 9, 10, 11, 12, 13);

    static Atr parse(List<Integer> b) throws Bad {
        Atr a = new Atr();
        int p = 0;
        a.ts = next(b, p);
        if (a.ts != 0x3b && a.ts != 0x3f) {
            throw new Bad(p, 2);
        }
        p++;
        int t0 = next(b, p++);
        int hist = t0 % 16;
        int coming = t0 - hist;
        int group = 1;
        int linkGroup = -1;
        boolean other = false;
        while (coming != 0) {
            a.groups = group;
            int have = coming;
            coming = 0;
            if ((have & 16) != 0) {
                int v = next(b, p);
                if (group == 1) {
                    if (!F_GOOD.contains(v / 16) || v % 16 < 1 || v % 16 > 9) {
                        throw new Bad(p, 4);
                    }
                    a.fi = v / 16;
                    a.di = v % 16;
                } else if (group == linkGroup) {
                    if (v == 0 || v == 255) {
                        throw new Bad(p, 5);
                    }
                    a.room = v;
                }
                p++;
            }
            if ((have & 32) != 0) {
                int v = next(b, p);
                if (group == linkGroup && v / 16 > 9) {
                    throw new Bad(p, 5);
                }
                p++;
            }
            if ((have & 64) != 0) {
                int v = next(b, p);
                if (group == 1) {
                    a.guard = v;
                } else if (group == linkGroup && v != 0) {
                    throw new Bad(p, 5);
                }
                p++;
            }
            if ((have & 128) != 0) {
                int v = next(b, p);
                int protocol = v % 16;
                if (protocol != 0 && protocol != 1 && protocol != 15) {
                    throw new Bad(p, 3);
                }
                coming = v - protocol;
                if (group == 4 && coming != 0) {
                    throw new Bad(p, 3);
                }
                other = other || protocol != 0;
                if (group == 1) {
                    a.first = protocol;
                } else if (protocol == 1 && linkGroup < 0) {
                    linkGroup = group + 1;
                }
                p++;
            }
            group++;
        }
        for (int i = 0; i < hist; i++) {
            a.hist.add(next(b, p++));
        }
        if (other) {
            next(b, p);
            int xor = 0;
            for (int v : b.subList(1, p + 1)) {
                xor ^= v;
            }
            if (xor != 0) {
                throw new Bad(p, 6);
            }
            a.check = 1;
            p++;
        }
        if (p < b.size()) {
            throw new Bad(p, 7);
        }
        return a;
    }

    /** What came of a block: its verdict, and its bytes where it is whole. */
    static final class Came {
        int verdict = 3;
        int[] bytes = new int[0];
    }

    static final class Sent {
        int side, verdict, took;
        int[] bytes;
    }

    static final class End {
        int next, wanted, room, through, asked = -1, askedInf, lastKind = -1, sent, messages;
        int[] out = {};
        int[] pending;
        List<Integer> in = new ArrayList<>();
        int[] got;

        End(int room) {
            this.room = room;
        }

        End(End o) {
            next = o.next;
            wanted = o.wanted;
            room = o.room;
            through = o.through;
            asked = o.asked;
            askedInf = o.askedInf;
            lastKind = o.lastKind;
            sent = o.sent;
            messages = o.messages;
            out = o.out;
            pending = o.pending;
            in = new ArrayList<>(o.in);
            got = o.got;
        }

        boolean more() {
            return pending != null && (pending[1] & 32) != 0;
        }

        void through() {
            if (pending != null) {
                through += pending[2];
                pending = null;
                next ^= 1;
            }
        }

        void blank() {
            out = new int[0];
            through = 0;
            pending = null;
            in.clear();
        }
    }

    static int[] block(int kind, int... inf) {
        int[] b = new int[inf.length + 4];
        b[1] = kind;
        b[2] = inf.length;
        int x = kind ^ inf.length;
        for (int i = 0; i < inf.length; i++) {
            b[3 + i] = inf[i];
            x ^= inf[i];
        }
        b[b.length - 1] = x;
        return b;
    }

    /** All of the link behind the reset answer. */
    static final class Link {
        End[] ends;
        int state, tries, letters, again, waits, dones, givens, waitsLeft, sleep = -1, wish = -1;
        boolean first, told, bad;
        TreeMap<Integer, int[]> faults = new TreeMap<>();
        Came came = new Came();
        List<Sent> log = new ArrayList<>();
        Map<String, Integer> times = new HashMap<>();

        Link(int cardRoom) {
            ends = new End[] {new End(32), new End(cardRoom)};
        }

        Link(Link o) {
            ends = new End[] {new End(o.ends[0]), new End(o.ends[1])};
            state = o.state;
            tries = o.tries;
            letters = o.letters;
            again = o.again;
            waits = o.waits;
            dones = o.dones;
            givens = o.givens;
            waitsLeft = o.waitsLeft;
            sleep = o.sleep;
            wish = o.wish;
            first = o.first;
            told = o.told;
            faults = new TreeMap<>(o.faults);
            came = o.came;
            log = new ArrayList<>(o.log);
            times = new HashMap<>(o.times);
        }

        int[] letter() {
            int[] f = faults.remove(letters++);
            return f == null ? new int[] {0, 0} : f;
        }

        void send(int side, int[] b, int repeats) {
            int start = letters;
            int lost = 0;
            boolean spoilt = false;
            int[] c = new int[b.length];
            for (int i = 0; i < b.length; i++) {
                int[] f = letter();
                int left = repeats;
                while (f[0] == 1 && left > 0) {
                    left--;
                    again++;
                    f = letter();
                }
                spoilt |= f[0] == 1;
                lost += f[0] == 3 ? 1 : 0;
                c[i] = f[0] == 2 ? b[i] ^ f[1] : b[i];
            }
            came = new Came();
            came.bytes = c;
            if (lost == b.length) {
                came.verdict = 3;
            } else if (lost > 0 || c.length != c[2] + 4) {
                came.verdict = 2;
            } else if (spoilt || Arrays.stream(c).reduce(0, (x, y) -> x ^ y) != 0) {
                came.verdict = 1;
            } else {
                came.verdict = good(c, ends[1 - side].room) ? 0 : 2;
            }
            Sent s = new Sent();
            s.side = side;
            s.bytes = b;
            s.verdict = came.verdict;
            s.took = letters - start;
            log.add(0, s);
            times.merge(side + Arrays.toString(b), 1, Integer::sum);
            ends[side].lastKind = b[1];
            ends[side].sent++;
        }

        static boolean good(int[] c, int room) {
            int len = c[2];
            if (c[0] != 0) {
                return false;
            }
            switch (c[1]) {
                case 0: case 32: case 64: case 96:
                    return len <= room;
                case 128: case 129: case 130: case 144: case 145: case 146:
                case 192: case 224: case 194: case 226:
                    return len == 0;
                case 193: case 225:
                    return len == 1 && c[3] != 0 && c[3] != 255;
                case 195: case 227:
                    return len == 1;
                default:
                    return false;
            }
        }

        int turn(int repeats) {
            int[] b = readerTurn();
            if (b == null) {
                return 0;
            }
            send(0, b, repeats);
            int[] answer = cardTurn();
            if (answer == null) {
                came = new Came();
                return 1;
            }
            send(1, answer, repeats);
            return 2;
        }

        int[] readerTurn() {
            bad = false;
            End r = ends[0];
            int[] b;
            if (first) {
                first = false;
                b = wish < 0 ? nextI(0) : ask(0, 1, wish);
            } else if (came.verdict == 3) {
                b = broken(0, 2);
            } else {
                b = common(0);
            }
            if (!bad) {
                tries = 0;
                return b;
            }
            if (++tries < 3) {
                return b;
            }
            tries = 0;
            if (r.asked == 0) {
                state = 4;
                return null;
            }
            return ask(0, 0, -1);
        }

        int[] cardTurn() {
            End c = ends[1];
            if (sleep > 0) {
                sleep--;
                return null;
            }
            if (sleep == 0) {
                sleep = -1;
                return out(new int[] {first(c.got)});
            }
            if (came.verdict == 3) {
                return null;
            }
            if (came.verdict == 0 && came.bytes[1] == 192) {
                c.next = 0;
                c.wanted = 0;
                c.blank();
                c.asked = -1;
                return block(224);
            }
            return common(1);
        }

        static int first(int[] bytes) {
            return bytes.length > 0 ? bytes[0] : 0;
        }

        int[] r(int side, int reason) {
            bad |= reason != 0;
            return block(128 + 16 * ends[side].wanted + reason);
        }

        int[] ask(int side, int what, int inf) {
            ends[side].asked = what;
            ends[side].askedInf = inf;
            return request(side);
        }

        int[] request(int side) {
            End e = ends[side];
            return e.asked % 2 == 1 ? block(192 + e.asked, e.askedInf) : block(192 + e.asked);
        }

        int[] broken(int side, int reason) {
            bad = true;
            return ends[side].asked >= 0 ? request(side) : r(side, reason);
        }

        int[] nextI(int side) {
            End e = ends[side];
            int to = Math.min(e.out.length, e.through + ends[1 - side].room);
            boolean more = to < e.out.length;
            e.pending = block(64 * e.next + (more ? 32 : 0), Arrays.copyOfRange(e.out, e.through, to));
            return e.pending;
        }

        int[] out(int[] bytes) {
            ends[1].out = bytes;
            ends[1].through = 0;
            return nextI(1);
        }

        int[] common(int side) {
            if (came.verdict != 0) {
                return broken(side, came.verdict);
            }
            if (ends[side].asked >= 0) {
                return answered(side);
            }
            int kind = came.bytes[1];
            return kind < 128 ? gotI(side, kind) : kind < 192 ? gotR(side, kind) : gotS(side, kind);
        }

        int[] answered(int side) {
            End e = ends[side];
            int[] due = request(side);
            due[1] += 32;
            due[due.length - 1] ^= 32;
            if (!Arrays.equals(due, came.bytes)) {
                bad = true;
                return request(side);
            }
            int asked = e.asked;
            e.asked = -1;
            if (side == 0 && asked == 1) {
                return done();
            }
            if (asked == 0) {
                e.next = 0;
                e.wanted = 0;
                e.blank();
                state = 3;
                givens++;
                return null;
            }
            if (asked == 2) {
                return r(1, 0);
            }
            if (asked == 1) {
                return out(new int[] {first(e.got)});
            }
            waits++;
            if (--waitsLeft > 0) {
                return ask(1, 3, e.askedInf);
            }
            return behindThird(e.got);
        }

        int[] behindThird(int[] m) {
            return out(m.length > 3 ? Arrays.copyOfRange(m, 3, m.length) : new int[0]);
        }

        int[] done() {
            state = 2;
            dones++;
            return null;
        }

        int[] gotI(int side, int kind) {
            End e = ends[side];
            if (kind / 64 != e.wanted || e.more()) {
                return r(side, 2);
            }
            e.through();
            for (int i = 0; i < came.bytes[2] && e.in.size() < 60; i++) {
                e.in.add(came.bytes[3 + i]);
            }
            e.wanted ^= 1;
            if ((kind & 32) != 0) {
                return r(side, 0);
            }
            whole(e, e.in.stream().mapToInt(i -> i).toArray());
            e.in.clear();
            return side == 0 ? done() : work(e.got);
        }

        static void whole(End e, int[] bytes) {
            e.got = bytes;
            e.messages++;
        }

        int[] gotR(int side, int kind) {
            End e = ends[side];
            if (side == 0 && told) {
                whole(e, new int[0]);
                return done();
            }
            if (e.pending == null) {
                return r(side, 0);
            }
            if ((kind & 16) / 16 == e.next) {
                bad = true;
                return e.pending;
            }
            boolean more = e.more();
            e.through();
            return more ? nextI(side) : r(side, 0);
        }

        int[] gotS(int side, int kind) {
            if (kind == 193) {
                ends[1 - side].room = came.bytes[3];
                return block(225, came.bytes[3]);
            }
            if (side == 0 && kind == 195) {
                return block(227, came.bytes[3]);
            }
            if (side == 0 && kind == 194) {
                told = true;
                ends[0].through();
                ends[0].blank();
                return block(226);
            }
            return r(side, 2);
        }

        int[] work(int[] m) {
            int n = m.length;
            switch (first(m) % 8) {
                case 0:
                    return out(m);
                case 1:
                    int[] counting = new int[n > 1 ? m[1] % 61 : 0];
                    Arrays.setAll(counting, i -> i);
                    return out(counting);
                case 2:
                    waitsLeft = n > 2 ? m[2] % 4 : 1;
                    return waitsLeft == 0 ? behindThird(m) : ask(1, 3, n > 1 ? m[1] : 1);
                case 3:
                    return ask(1, 1, n > 1 && m[1] > 0 && m[1] < 255 ? m[1] : 32);
                case 4:
                    return ask(1, 2, -1);
                case 5:
                    sleep = n > 1 ? m[1] % 4 : 0;
                    return null;
                default:
                    return out(new int[] {m[0], n});
            }
        }
    }

    int feed(long a, long b) {
        if (tape.size() > 80) {
            return -1;
        }
        for (long half : new long[] {a, b}) {
            for (int i = 7; i >= 0; i--) {
                tape.add((int) (half >> 8 * i & 255));
            }
        }
        return tape.size();
    }

    int end(int n) {
        if (n < 0 || n > tape.size()) {
            return -1;
        }
        tape = new ArrayList<>(tape.subList(0, n));
        return n;
    }

    int reset() {
        List<Integer> bytes = tape;
        tape = new ArrayList<>();
        try {
            atr = parse(bytes);
        } catch (Bad bad) {
            return bad.code;
        }
        link = new Link(atr.room);
        return atr.hist.size();
    }

    int answer(int what) {
        if (atr == null || what < 0 || what > 8) {
            return -1;
        }
        int[] f = {372, 372, 558, 744, 1116, 1488, 1860, 0, 0, 512, 768, 1024, 1536, 2048};
        int[] d = {0, 1, 2, 4, 8, 16, 32, 64, 12, 20};
        return new int[] {atr.ts, f[atr.fi], d[atr.di], atr.guard, atr.first, atr.groups, atr.hist.size(), atr.room, atr.check}[what];
    }

    int historical(int i) {
        return atr == null || i < 0 || i >= atr.hist.size() ? -1 : atr.hist.get(i);
    }

    boolean free() {
        return atr != null && link.state != 1 && link.state != 4;
    }

    int message() {
        List<Integer> bytes = tape;
        tape = new ArrayList<>();
        if (!free() || bytes.size() > 60) {
            return -1;
        }
        link.ends[0].out = bytes.stream().mapToInt(i -> i).toArray();
        link.ends[0].through = 0;
        link.told = false;
        link.first = true;
        link.wish = -1;
        link.state = 1;
        int room = link.ends[1].room;
        return bytes.isEmpty() ? 1 : (bytes.size() + room - 1) / room;
    }

    int room(int n) {
        if (!free() || n < 1 || n > 254) {
            return -1;
        }
        link.first = true;
        link.wish = n;
        link.state = 1;
        return 1;
    }

    int fault(int letter, int kind, int bits) {
        if (atr == null || letter < 0 || letter > 999 || kind < 1 || kind > 3 || link.faults.size() >= 24) {
            return -1;
        }
        if (kind == 2 ? bits < 1 || bits > 255 : bits != 0) {
            return -1;
        }
        link.faults.put(link.letters + letter, new int[] {kind, bits});
        return link.faults.size();
    }

    int repeats(int n) {
        if (n < 0 || n > 3) {
            return -1;
        }
        int was = repeats;
        repeats = n;
        return was;
    }

    boolean onWay() {
        return atr != null && link.state == 1;
    }

    int step(int n) {
        if (n < 1 || n > 60 || !onWay()) {
            return -1;
        }
        int blocks = 0;
        for (int i = 0; i < n && link.state == 1; i++) {
            blocks += link.turn(repeats);
        }
        return blocks;
    }

    int state() {
        return atr == null ? -1 : link.state;
    }

    int side(int side, int what) {
        if (atr == null || side < 0 || side > 1 || what < 0 || what > 10) {
            return -2;
        }
        End e = link.ends[side];
        return new int[] {e.next, e.wanted, e.room, e.out.length, e.through, e.in.size(), e.lastKind, e.asked,
            e.pending == null ? -1 : e.pending[1] / 64, e.sent, e.messages}[what];
    }

    int got(int side, int i) {
        if (atr == null || side < 0 || side > 1 || link.ends[side].got == null) {
            return -2;
        }
        int[] got = link.ends[side].got;
        return i == -1 ? got.length : i < 0 || i >= got.length ? -2 : got[i];
    }

    int log(int i, int what) {
        if (i < 0 || i >= Math.min(30, link.log.size()) || what < 0 || what > 5) {
            throw new NoSuchElementException();
        }
        Sent s = link.log.get(i);
        return new int[] {s.side, s.bytes[1], s.bytes[2], s.verdict, s.took, link.times.get(s.side + Arrays.toString(s.bytes))}[what];
    }

    int byteOf(int i, int k) {
        if (i < 0 || i >= Math.min(30, link.log.size()) || k < 0 || k >= link.log.get(i).bytes.length) {
            return -1;
        }
        return link.log.get(i).bytes[k];
    }

    Link wouldBe(int letter, int kind) {
        Link then = new Link(link);
        if (kind > 0) {
            then.faults.put(letter, new int[] {kind, 1});
        }
        for (int i = 0; i < 400 && then.state == 1; i++) {
            then.turn(repeats);
        }
        return then;
    }

    int would(int what) {
        if (!onWay() || what < 0 || what > 3) {
            return -1;
        }
        Link then = wouldBe(0, 0);
        int[] got = then.ends[0].got;
        return new int[] {then.state, then.log.size() - link.log.size(), then.letters - link.letters,
            got == null || then.state != 2 ? -1 : got.length}[what];
    }

    int harm(int kind, int what) {
        if (!onWay() || kind < 1 || kind > 3 || what < 0 || what > 1) {
            return -1;
        }
        Link plain = wouldBe(0, 0);
        if (plain.state != 2) {
            return -1;
        }
        int first = -1;
        int found = 0;
        for (int letter = link.letters; letter < plain.letters; letter++) {
            Link then = wouldBe(letter, kind);
            if (then.state != 2 || !Arrays.equals(then.ends[0].got, plain.ends[0].got)) {
                found++;
                first = first < 0 ? letter - link.letters : first;
            }
        }
        return what == 0 ? found : first;
    }

    int count(int what) {
        if (what < 0 || what > 10) {
            return -1;
        }
        return new int[] {link.letters, link.again, link.faults.size(), link.tries, link.times.size(),
            Math.min(30, link.log.size()), repeats, link.waits, link.dones, link.givens, tape.size()}[what];
    }
}
