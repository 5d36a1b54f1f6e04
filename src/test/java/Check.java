/** Counts the answers that are not as due, and tells each; and the calls that many tests make. */
class Check {
    private static int wrong = 0;
    private static int asked = 0;

    Check() {
    }

    static void due(String call, long got, long want) {
        asked++;
        if (got != want) {
            wrong++;
            System.out.println(call + " answered " + got + ", due is " + want);
        }
    }

    /** Ends the test with exit code 1 if an answer was wrong, or none was asked for. */
    static void close() {
        System.out.println(asked + " answers, " + wrong + " not as due");
        if (wrong != 0 || asked == 0) {
            System.exit(1);
        }
    }

    /** The bytes, and they alone, come on the tape. */
    static void tape(CardLink x, int... bytes) {
        x.end(0);
        for (int at = 0; at < bytes.length; at += 16) {
            x.feed(eight(bytes, at), eight(bytes, at + 8));
        }
        x.end(bytes.length);
    }

    private static long eight(int[] bytes, int at) {
        long all = 0;
        for (int i = at; i < at + 8; i++) {
            all = all << 8 | (i < bytes.length ? bytes[i] & 255 : 0);
        }
        return all;
    }

    static int reset(CardLink x, int... bytes) {
        tape(x, bytes);
        return x.reset();
    }

    static int message(CardLink x, int... bytes) {
        tape(x, bytes);
        return x.message();
    }

    /** A card by the shortest reset answer. */
    static CardLink plainCard() {
        CardLink x = new CardLink();
        reset(x, 0x3b, 0);
        return x;
    }

    /** A card whose room is told. */
    static CardLink cardOfRoom(int room) {
        CardLink x = new CardLink();
        reset(x, 0x3b, 0x80, 0x81, 0x11, room, 0x80 ^ 0x81 ^ 0x11 ^ room);
        return x;
    }

    /** An answer of log, or -9 where it throws what it is to throw. */
    static int log(CardLink x, int i, int what) {
        try {
            return x.log(i, what);
        } catch (java.util.NoSuchElementException e) {
            return -9;
        }
    }

    /** The reset answer with its check behind it. */
    static int[] checked(int... bytes) {
        int[] all = java.util.Arrays.copyOf(bytes, bytes.length + 1);
        for (int i = 1; i < bytes.length; i++) {
            all[bytes.length] ^= bytes[i];
        }
        return all;
    }

    /** The latest blocks, the oldest first: side, kind, and / what came where it was not whole. */
    static void sent(CardLink x, String want) {
        int many = want.split(" ").length;
        StringBuilder got = new StringBuilder();
        for (int i = many - 1; i >= 0; i--) {
            int came = log(x, i, 3);
            got.append(log(x, i, 0) == 0 ? "r" : "c").append(log(x, i, 1));
            got.append(came == 0 ? "" : "/" + came).append(i > 0 ? " " : "");
        }
        due("sent " + got + ", due " + want, got.toString().equals(want) ? 1 : 0, 1);
    }

    /** All bytes of the latest message that came whole to the side, and nothing on either end of it. */
    static void got(CardLink x, int side, int... want) {
        due("got(" + side + ", -1)", x.got(side, -1), want.length);
        for (int i = 0; i < want.length; i++) {
            due("got(" + side + ", " + i + ")", x.got(side, i), want[i]);
        }
        due("got behind the end", x.got(side, want.length), -2);
        due("got(" + side + ", -2)", x.got(side, -2), -2);
    }

    static void step(CardLink x, int turns, int blocks) {
        due("step(" + turns + ")", x.step(turns), blocks);
    }

    static void side(CardLink x, int side, int what, int want) {
        due("side(" + side + ", " + what + ")", x.side(side, what), want);
    }

    static void count(CardLink x, int what, int want) {
        due("count(" + what + ")", x.count(what), want);
    }

    static void state(CardLink x, int want) {
        due("state()", x.state(), want);
    }

    /** The letter so many behind the next one, and the check of its block, turned alike: the check is right again. */
    static void forge(CardLink x, int letter, int check, int bits) {
        x.fault(letter, 2, bits);
        x.fault(check, 2, bits);
    }
}
