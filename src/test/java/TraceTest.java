import java.util.HashMap;
import java.util.Map;

/** Promises 15, 16 and 19: the log, the bytes sent, the counts. */
final class TraceTest {
    private TraceTest() {
    }

    public static void main(String[] args) {
        rows();
        latestThirty();
        behindThirty();
        growing();
        unlike();
        likeBlocks();
        counts();
        Check.close();
    }

    private static void log(CardLink x, int i, int... want) {
        for (int what = 0; what < want.length; what++) {
            Check.due("log(" + i + ", " + what + ")", Check.log(x, i, what), want[what]);
        }
    }

    private static void rows() {
        CardLink x = Check.plainCard();
        x.fault(2, 1, 0);
        Check.message(x, 6, 0x55);
        Check.due("step(1)", x.step(1), 2);
        // The first block took a letter more.
        log(x, 1, 0, 0, 2, 0, 7, 1);
        log(x, 0, 1, 0, 2, 0, 6, 1);
        x.step(60);
        int[] first = {0, 0, 2, 6, 0x55, 2 ^ 6 ^ 0x55};
        for (int k = 0; k < 6; k++) {
            Check.due("byteOf(1, " + k + ")", x.byteOf(1, k), first[k]);
        }
        Check.due("byteOf(1, 6)", x.byteOf(1, 6), -1);
        Check.due("byteOf(1, -1)", x.byteOf(1, -1), -1);
        Check.due("byteOf(2, 0)", x.byteOf(2, 0), -1);
        Check.due("byteOf(-1, 0)", x.byteOf(-1, 0), -1);
        Check.due("byteOf(max, max)", x.byteOf(Integer.MAX_VALUE, Integer.MAX_VALUE), -1);
        log(x, -1, -9, -9, -9, -9, -9, -9, -9);
        log(x, 2, -9, -9, -9, -9, -9, -9, -9);
        Check.due("log(0, 6)", Check.log(x, 0, 6), -9);
        Check.due("log(0, -1)", Check.log(x, 0, -1), -9);
        Check.due("log(min, 0)", Check.log(x, Integer.MIN_VALUE, 0), -9);
        // The bytes are as sent, not as they came; how often the like was sent is told of the older one, too.
        Check.message(x, 6);
        x.fault(1, 2, 32);
        x.step(1);
        Check.due("byteOf(1, 1)", x.byteOf(1, 1), 64);
        log(x, 1, 0, 64, 1, 1, 5, 1);
        x.step(1);
        log(x, 3, 0, 64, 1, 1, 5, 2);
        log(x, 2, 1, 145, 0, 0, 4, 1);
        log(x, 1, 0, 64, 1, 0, 5, 2);
    }

    private static void latestThirty() {
        CardLink x = Check.cardOfRoom(1);
        int[] m = new int[60];
        for (int i = 0; i < 60; i++) {
            m[i] = 6 + 3 * i;
        }
        Check.due("message of 60, room 1", Check.message(x, m), 60);
        x.step(14);
        Check.due("count(5)", x.count(5), 28);
        x.step(1);
        Check.due("count(5)", x.count(5), 30);
        Check.due("byteOf(29, 3)", x.byteOf(29, 3), 6);
        x.step(1);
        Check.due("count(5)", x.count(5), 30);
        Check.due("log(30, 0)", Check.log(x, 30, 0), -9);
        Check.due("byteOf(29, 3)", x.byteOf(29, 3), 9);
        for (int i = 0; i < 30; i++) {
            int block = 31 - i;
            Check.due("log(" + i + ", 0)", Check.log(x, i, 0), block & 1);
            Check.due("log(" + i + ", 1)", Check.log(x, i, 1), (block & 1) == 1 ? (block & 2) == 0 ? 144 : 128 : (block & 2) == 0 ? 32 : 96);
            Check.due("log(" + i + ", 4)", Check.log(x, i, 4), (block & 1) == 1 ? 4 : 5);
            Check.due("log(" + i + ", 5)", Check.log(x, i, 5), (block & 1) == 1 ? 8 : 1);
        }
        Check.due("count(4)", x.count(4), 16 + 2);
        x.step(60);
        // 59 receipts of the card, the older ones out of the LOG: counted all the same.
        Check.due("log(2, 5)", Check.log(x, 2, 5), 30);
        Check.due("log(4, 5)", Check.log(x, 4, 5), 29);
        Check.due("count(4)", x.count(4), 60 + 2 + 1);
        Check.due("side(0, 9)", x.side(0, 9), 60);
        Check.due("side(1, 9)", x.side(1, 9), 60);
    }

    /** What came and the letters of blocks behind the thirtieth, and all of it anew behind a reset. */
    private static void behindThirty() {
        CardLink x = Check.cardOfRoom(1);
        int[] m = new int[60];
        m[0] = 6;
        Check.message(x, m);
        x.step(16);
        x.fault(2, 1, 0);
        x.step(1);
        log(x, 1, 0, 32, 1, 0, 6, 8);
        log(x, 0, 1, 144, 0, 0, 4, 9);
        x.fault(3, 3, 0);
        x.fault(5, 2, 1);
        x.step(1);
        log(x, 1, 0, 96, 1, 2, 5, 9);
        log(x, 0, 1, 146, 0, 1, 4, 1);
        x.step(1);
        log(x, 1, 0, 129, 0, 0, 4, 1);
        log(x, 0, 1, 144, 0, 0, 4, 10);
        Check.due("count(5)", x.count(5), 30);
        Check.reset(x, 0x3b, 0);
        Check.due("count(4)", x.count(4), 0);
        Check.due("count(5)", x.count(5), 0);
        Check.due("byteOf(0, 0)", x.byteOf(0, 0), -1);
        x.fault(0, 3, 0);
        Check.message(x, 6, 0);
        x.step(1);
        log(x, 1, 0, 0, 2, 2, 6, 1);
        log(x, 0, 1, 130, 0, 0, 4, 1);
        log(x, 2, -9, -9, -9, -9, -9, -9);
        x.step(1);
        log(x, 2, 1, 130, 0, 0, 4, 1);
        log(x, 1, 0, 0, 2, 0, 6, 2);
        log(x, 0, 1, 0, 2, 0, 6, 1);
        Check.due("count(4)", x.count(4), 3);
    }

    /** From the first block to the thirtieth and beyond: the oldest that is kept, the first that is not, the bytes' ends. */
    private static void growing() {
        CardLink x = Check.cardOfRoom(3);
        int[] m = new int[60];
        m[0] = 8;
        Check.due("log(0, 0): none", Check.log(x, 0, 0), -9);
        Check.due("byteOf(0, 0): none", x.byteOf(0, 0), -1);
        Check.message(x, m);
        for (int turn = 1; turn <= 20; turn++) {
            Check.due("step(1)", x.step(1), 2);
            int kept = Math.min(30, 2 * turn);
            Check.due("count(5)", x.count(5), kept);
            for (int what = 0; what <= 5; what++) {
                Check.due("log(" + kept + ", " + what + ")", Check.log(x, kept, what), -9);
                Check.due("log(-1, " + what + ")", Check.log(x, -1, what), -9);
            }
            Check.due("byteOf(" + kept + ", 0)", x.byteOf(kept, 0), -1);
            Check.due("byteOf(-1, 0)", x.byteOf(-1, 0), -1);
            for (int i = 0; i < kept; i++) {
                int block = 2 * turn - 1 - i;
                int len = block % 2 == 0 || block == 39 ? block == 39 ? 32 : 3 : 0;
                Check.due("log(" + i + ", 0)", Check.log(x, i, 0), block % 2);
                Check.due("log(" + i + ", 2)", Check.log(x, i, 2), len);
                Check.due("log(" + i + ", 4)", Check.log(x, i, 4), len + 4);
                Check.due("log(" + i + ", -1)", Check.log(x, i, -1), -9);
                Check.due("log(" + i + ", 6)", Check.log(x, i, 6), -9);
                Check.due("byteOf(" + i + ", -1)", x.byteOf(i, -1), -1);
                Check.due("byteOf(" + i + ", " + len + " + 4)", x.byteOf(i, len + 4), -1);
                int check = 0;
                for (int k = 0; k < len + 3; k++) {
                    check ^= x.byteOf(i, k);
                }
                Check.due("byteOf(" + i + ", " + len + " + 3)", x.byteOf(i, len + 3), check);
            }
        }
    }

    /** The like is of the same side and of the same bytes: echoes of one message, and of one that differs in its last byte. */
    private static void likeBlocks() {
        CardLink x = Check.plainCard();
        int[][] messages = {{8, 1, 1}, {8, 1, 2}, {8, 1, 1}, {8, 1, 2}, {8, 1, 1}, {8, 1}, {8, 1, 1}, {8, 1, 1}};
        // By turns of NUMBER 0 and 1: of the last two the second is by another NUMBER.
        int[] times = {1, 1, 2, 2, 3, 1, 4, 1};
        int[] unlike = {2, 4, 4, 4, 4, 6, 6, 8};
        for (int i = 0; i < messages.length; i++) {
            Check.message(x, messages[i]);
            Check.due("step(60)", x.step(60), 2);
            Check.due("log(1, 5) of " + i, Check.log(x, 1, 5), times[i]);
            Check.due("log(0, 5) of " + i, Check.log(x, 0, 5), times[i]);
            Check.due("count(4) of " + i, x.count(4), unlike[i]);
        }
        // An older block of the log tells how often by now, not by then.
        Check.due("log(15, 5)", Check.log(x, 15, 5), 4);
        Check.due("log(14, 5)", Check.log(x, 14, 5), 4);
        // They count from reset() on.
        Check.reset(x, 0x3b, 0);
        Check.due("count(4)", x.count(4), 0);
        Check.message(x, 8, 1, 1);
        x.step(60);
        Check.due("log(1, 5)", Check.log(x, 1, 5), 1);
        Check.due("count(4)", x.count(4), 2);
    }

    /** Against a count by this test itself, over more unlike blocks than any table begins with. */
    private static void unlike() {
        CardLink x = Check.cardOfRoom(2);
        Map<String, Integer> seen = new HashMap<>();
        int left = 0;
        int seed = 1;
        for (int round = 0; round < 60; round++) {
            int[] m = new int[40];
            for (int i = 0; i < 40; i++) {
                seed = seed * 1103515245 + 12345;
                m[i] = seed >>> 16 & 255;
            }
            m[0] = 8;
            Check.message(x, m);
            for (int turn = 0; turn < 40 && x.state() == 1; turn++) {
                for (int i = x.step(1) - 1; i >= 0; i--) {
                    seen.merge(row(x, i), 1, Integer::sum);
                }
                Check.due("count(4)", x.count(4), seen.size());
            }
            for (int i = 0; i < 30 && i < x.count(5); i++) {
                Check.due("log(" + i + ", 5)", Check.log(x, i, 5), seen.get(row(x, i)));
            }
            left += x.state() == 2 ? 0 : 1;
        }
        Check.due("messages not done", left, 0);
        Check.due("more than 1000 unlike ones", seen.size() > 1000 ? 1 : 0, 1);
    }

    private static String row(CardLink x, int i) {
        StringBuilder all = new StringBuilder().append(Check.log(x, i, 0));
        for (int k = 0; k < Check.log(x, i, 2) + 4; k++) {
            all.append(' ').append(x.byteOf(i, k));
        }
        return all.toString();
    }

    private static void counts() {
        CardLink x = Check.plainCard();
        x.fault(0, 1, 0);
        x.fault(500, 1, 0);
        Check.message(x);
        x.step(60);
        x.feed(0, 0);
        int[] want = {9, 1, 1, 0, 2, 2, 1, 0, 1, 0, 16};
        for (int what = 0; what <= 10; what++) {
            Check.due("count(" + what + ")", x.count(what), want[what]);
        }
        for (int what : new int[] {-1, 11, Integer.MAX_VALUE, Integer.MIN_VALUE}) {
            Check.due("count(" + what + ")", x.count(what), -1);
        }
    }
}
