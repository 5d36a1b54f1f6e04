import java.util.NoSuchElementException;
import java.util.Random;

/** Runs of calls drawn by fixed seeds, asked of the program and of the model alike: all promises. */
final class ModelTest {
    private final Random random;
    private final CardLink real = new CardLink();
    private final Model model = new Model();
    private final StringBuilder calls = new StringBuilder();
    private int length = 0;

    private ModelTest(long seed) {
        random = new Random(seed);
    }

    public static void main(String[] args) {
        for (int seed = 1; seed <= 3000; seed++) {
            new ModelTest(seed).run(seed);
        }
        everyForgedKind();
        Check.close();
    }

    /** Each of the first blocks of an exchange comes as each other kind, its check right; LEN and INF stay. */
    private static void everyForgedKind() {
        int[][] messages = {{}, {6}, {8, 1, 2, 3, 4}, {1, 7}, {2, 7, 2, 9}, {3, 9}, {4}, {4, 1, 1, 1, 1}, {5, 1}, {5, 2}};
        for (int[] message : messages) {
            for (int rooms = 0; rooms < 4; rooms++) {
                CardLink plain = exchange(message, rooms).real;
                int blocks = Math.min(8, plain.step(20));
                int letter = 0;
                for (int i = plain.count(5) - 2 * (rooms & 1) - 1; i >= 0 && blocks > 0; i--) {
                    int check = letter + Check.log(plain, i, 2) + 3;
                    for (int bits = 1; bits < 256; bits++) {
                        ModelTest x = exchange(message, rooms);
                        x.fault(letter + 1, 2, bits);
                        x.fault(check, 2, bits);
                        x.follow();
                    }
                    letter = check + 1;
                    blocks--;
                }
            }
        }
    }

    /** A message on its way; the reader's room is 2 by the lower bit of rooms, the card's by the upper one. */
    private static ModelTest exchange(int[] message, int rooms) {
        ModelTest x = new ModelTest(rooms);
        x.feed(rooms > 1 ? new int[] {0x3b, 0x80, 0x81, 0x11, 2, 0x80 ^ 0x81 ^ 0x11 ^ 2} : new int[] {0x3b, 0});
        x.both("reset()", x.real.reset(), x.model.reset());
        if ((rooms & 1) == 1) {
            x.both("room(2)", x.real.room(2), x.model.room(2));
            x.both("step(2)", x.real.step(2), x.model.step(2));
        }
        x.feed(message);
        x.both("message()", x.real.message(), x.model.message());
        return x;
    }

    private void follow() {
        both("would(0)", real.would(0), model.would(0));
        both("would(1)", real.would(1), model.would(1));
        for (int turn = 0; turn < 10 && model.state() == 1; turn++) {
            both("step(1)", real.step(1), model.step(1));
            both("count(3)", real.count(3), model.count(3));
            both("log(0, 1)", Check.log(real, 0, 1), model.log(0, 1));
            both("log(0, 3)", Check.log(real, 0, 3), model.log(0, 3));
            both("log(1, 3)", Check.log(real, 1, 3), model.link.log.size() > 1 ? model.log(1, 3) : -9);
            for (int side = 0; side < 2; side++) {
                for (int what : new int[] {0, 1, 2, 3, 4, 5, 7, 8, 10}) {
                    both("side(" + side + ", " + what + ")", real.side(side, what), model.side(side, what));
                }
            }
        }
        both("state()", real.state(), model.state());
        for (int i = -1; i < 6; i++) {
            both("got(0, " + i + ")", real.got(0, i), model.got(0, i));
            both("got(1, " + i + ")", real.got(1, i), model.got(1, i));
        }
    }

    private void run(int seed) {
        calls.append("seed ").append(seed).append(':');
        while (length < 500) {
            draw();
            if (random.nextInt(4) == 0) {
                askSome(4);
            }
        }
    }

    private void both(String call, long got, long want) {
        length++;
        calls.append(' ').append(call).append('=').append(want);
        Check.due(got == want ? call : calls.toString(), got, want);
    }

    private void draw() {
        switch (random.nextInt(12)) {
            case 0:
                reset();
                break;
            case 1: case 2: case 3:
                message();
                break;
            case 4:
                int n = random.nextInt(4) == 0 ? random.nextInt(300) - 10 : 1 + random.nextInt(40);
                both("room(" + n + ")", real.room(n), model.room(n));
                break;
            case 5:
                int repeats = random.nextInt(6) - 1;
                both("repeats(" + repeats + ")", real.repeats(repeats), model.repeats(repeats));
                break;
            case 6: case 7:
                faults();
                break;
            default:
                int turns = random.nextInt(10) == 0 ? random.nextInt(70) - 3 : 1 + random.nextInt(random.nextBoolean() ? 3 : 60);
                both("step(" + turns + ")", real.step(turns), model.step(turns));
        }
    }

    private void feed(int[] bytes) {
        for (int at = 0; at < bytes.length; at += 16) {
            long a = eight(bytes, at);
            long b = eight(bytes, at + 8);
            both("feed(" + a + ", " + b + ")", real.feed(a, b), model.feed(a, b));
        }
        both("end(" + bytes.length + ")", real.end(bytes.length), model.end(bytes.length));
    }

    private void endAnyhow() {
        if (random.nextInt(30) == 0) {
            int n = random.nextInt(100) - 2;
            both("end(" + n + ")", real.end(n), model.end(n));
        }
    }

    private static long eight(int[] bytes, int at) {
        long all = 0;
        for (int i = at; i < at + 8; i++) {
            all = all << 8 | (i < bytes.length ? bytes[i] & 255 : 0);
        }
        return all;
    }

    private void reset() {
        if (real.state() == 1 && random.nextInt(3) > 0) {
            return;
        }
        feed(resetAnswer());
        endAnyhow();
        both("reset()", real.reset(), model.reset());
        for (int what = -1; what < 10; what++) {
            if (random.nextInt(3) == 0) {
                both("answer(" + what + ")", real.answer(what), model.answer(what));
            }
        }
        int i = random.nextInt(6) - 1;
        both("historical(" + i + ")", real.historical(i), model.historical(i));
    }

    /** Mostly a good one, often with a small room of the card. */
    private int[] resetAnswer() {
        int[] b = new int[48];
        int n = 0;
        b[n++] = random.nextInt(20) == 0 ? random.nextInt(256) : random.nextBoolean() ? 0x3b : 0x3f;
        int hist = random.nextInt(random.nextInt(5) == 0 ? 16 : 3);
        int have = random.nextInt(16) | (random.nextInt(3) > 0 ? 8 : 0);
        b[n++] = have << 4 | hist;
        boolean check = false;
        for (int group = 1; group <= 5 && have != 0; group++) {
            int here = have;
            have = 0;
            if ((here & 1) != 0) {
                b[n++] = group == 1 ? random.nextInt(20) == 0 ? random.nextInt(256) : random.nextInt(7) << 4 | 1 + random.nextInt(9)
                    : random.nextInt(20) == 0 ? random.nextInt(256) : 1 + random.nextInt(random.nextBoolean() ? 8 : 254);
            }
            if ((here & 2) != 0) {
                b[n++] = random.nextInt(20) == 0 ? random.nextInt(256) : random.nextInt(160);
            }
            if ((here & 4) != 0) {
                b[n++] = random.nextInt(group == 1 ? 2 : 20) == 0 ? random.nextInt(256) : 0;
            }
            if ((here & 8) != 0) {
                int protocol = random.nextInt(30) == 0 ? random.nextInt(16) : random.nextInt(4) > 0 ? 1 : random.nextBoolean() ? 15 : 0;
                check |= protocol != 0;
                have = group < 4 || random.nextInt(10) == 0 ? random.nextInt(16) | (random.nextBoolean() ? 1 : 0) : 0;
                b[n++] = have << 4 | protocol;
            }
        }
        for (int i = 0; i < hist; i++) {
            b[n++] = random.nextInt(256);
        }
        if (check) {
            int xor = 0;
            for (int i = 1; i < n; i++) {
                xor ^= b[i];
            }
            b[n++] = random.nextInt(30) == 0 ? random.nextInt(256) : xor;
        }
        int size = random.nextInt(20) > 0 ? n : random.nextInt(n + 3);
        return java.util.Arrays.copyOf(b, size);
    }

    private void message() {
        if (real.state() == 1 && random.nextInt(10) > 0) {
            both("step(60)", real.step(60), model.step(60));
        }
        int most = random.nextInt(3) == 0 ? 60 : 8;
        int[] b = new int[random.nextInt(40) == 0 ? 61 + random.nextInt(20) : random.nextInt(most + 1)];
        for (int i = 0; i < b.length; i++) {
            b[i] = random.nextInt(256);
        }
        if (random.nextInt(3) == 0 && b.length > 3) {
            java.util.Arrays.fill(b, 1, b.length, random.nextInt(3));
        }
        feed(b);
        endAnyhow();
        both("message()", real.message(), model.message());
    }

    private void faults() {
        int many = random.nextInt(random.nextInt(12) == 0 ? 26 : 4);
        int reach = random.nextInt(8) == 0 ? 1000 : random.nextBoolean() ? 60 : 15;
        for (int i = 0; i < many; i++) {
            int letter = random.nextInt(reach);
            switch (random.nextInt(6)) {
                case 0:
                    fault(letter, random.nextInt(5), random.nextInt(3) - 1);
                    break;
                case 1: case 2:
                    // The same bits at two letters: a block that is another one, and whole.
                    int bits = random.nextInt(3) == 0 ? 1 + random.nextInt(255) : 1 << random.nextInt(8);
                    fault(letter, 2, bits);
                    fault(letter + (random.nextBoolean() ? 2 : 1 + random.nextInt(6)), 2, bits);
                    break;
                case 3:
                    for (int k = 0; k < 4; k++) {
                        fault(letter + k, 3, 0);
                    }
                    break;
                default:
                    fault(letter, random.nextBoolean() ? 3 : 1, 0);
            }
        }
    }

    private void fault(int letter, int kind, int bits) {
        both("fault(" + letter + ", " + kind + ", " + bits + ")", real.fault(letter, kind, bits), model.fault(letter, kind, bits));
    }

    private void askSome(int many) {
        for (int i = 0; i < many; i++) {
            int a = random.nextInt(5) - 1;
            int b = random.nextInt(13) - 1;
            switch (random.nextInt(8)) {
                case 0:
                    both("would(" + a + ")", real.would(a), model.would(a));
                    break;
                case 1:
                    int what = random.nextInt(4) - 1;
                    both("harm(" + a + ", " + what + ")", real.harm(a, what), model.harm(a, what));
                    break;
                case 2:
                    both("got(" + (a - 1) + ", " + b + ")", real.got(a - 1, b), model.got(a - 1, b));
                    break;
                case 3:
                    log(random.nextInt(34) - 1, random.nextInt(8) - 1);
                    break;
                case 4:
                    int of = random.nextInt(34) - 1;
                    both("byteOf(" + of + ", " + b + ")", real.byteOf(of, b), model.byteOf(of, b));
                    break;
                case 5:
                    both("state()", real.state(), model.state());
                    break;
                default:
                    all();
                    i++;
            }
        }
    }

    private void all() {
        int what = random.nextInt(12);
        both("count(" + what + ")", real.count(what), model.count(what));
        for (int side = 0; side < 2; side++) {
            both("side(" + side + ", " + what + ")", real.side(side, what), model.side(side, what));
        }
    }

    private void log(int i, int what) {
        int got;
        int want;
        try {
            got = real.log(i, what);
        } catch (NoSuchElementException e) {
            got = -9;
        }
        try {
            want = model.log(i, what);
        } catch (NoSuchElementException e) {
            want = -9;
        }
        both("log(" + i + ", " + what + ")", got, want);
    }
}
