/** Counts the answers that are not as due, and tells each. */
final class Check {
    private static int wrong = 0;
    private static int asked = 0;

    private Check() {
    }

    static void due(String call, long got, long want) {
        asked++;
        if (got != want) {
            wrong++;
            System.out.println(call + " answered " + got + ", due is " + want);
        }
    }

    /** Ends the test with exit code 1 if an answer was wrong, or none was asked for. */
    static void close() {
        System.out.println(asked + " answers, " + wrong + " not as due");
        if (wrong != 0 || asked == 0) {
            System.exit(1);
        }
    }

    /** The bytes, and they alone, come on the tape. */
    static void tape(CardLink x, int... bytes) {
        x.end(0);
        for (int at = 0; at < bytes.length; at += 16) {
            x.feed(eight(bytes, at), eight(bytes, at + 8));
        }
        x.end(bytes.length);
    }

    private static long eight(int[] bytes, int at) {
        long all = 0;
        for (int i = at; i < at + 8; i++) {
            all = all << 8 | (i < bytes.length ? bytes[i] & 255 : 0);
        }
        return all;
    }

    static int reset(CardLink x, int... bytes) {
        tape(x, bytes);
        return x.reset();
    }

    static int message(CardLink x, int... bytes) {
        tape(x, bytes);
        return x.message();
    }

    /** A card by the shortest reset answer. */
    static CardLink plainCard() {
        CardLink x = new CardLink();
        reset(x, 0x3b, 0);
        return x;
    }

    /** A card whose room is told. */
    static CardLink cardOfRoom(int room) {
        CardLink x = new CardLink();
        reset(x, 0x3b, 0x80, 0x81, 0x11, room, 0x80 ^ 0x81 ^ 0x11 ^ room);
        return x;
    }

    /** An answer of log, or -9 where it throws what it is to throw. */
    static int log(CardLink x, int i, int what) {
        try {
            return x.log(i, what);
        } catch (java.util.NoSuchElementException e) {
            return -9;
        }
    }
}
