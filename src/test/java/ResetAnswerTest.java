/** Promises 1 to 6: a new object, the tape, the reset answer. */
final class ResetAnswerTest {
    private ResetAnswerTest() {
    }

    public static void main(String[] args) {
        newObject();
        tape();
        faults();
        factors();
        groups();
        linkGroup();
        checkAndHistorical();
        refusedAndAccepted();
        oneBehindAnother();
        Check.close();
    }

    private static void fails(int place, int kind, int... bytes) {
        CardLink x = new CardLink();
        Check.due("reset of " + java.util.Arrays.toString(bytes), Check.reset(x, bytes), -2 - (8 * place + kind));
        Check.due("state() behind a refused reset", x.state(), -1);
        Check.due("count(10) behind a refused reset", x.count(10), 0);
    }

    private static CardLink stands(int historical, int... bytes) {
        CardLink x = new CardLink();
        Check.due("reset of " + java.util.Arrays.toString(bytes), Check.reset(x, bytes), historical);
        return x;
    }

    /** The bytes with the check behind them. */
    private static int[] checked(int... bytes) {
        int[] all = java.util.Arrays.copyOf(bytes, bytes.length + 1);
        for (int i = 1; i < bytes.length; i++) {
            all[bytes.length] ^= bytes[i];
        }
        return all;
    }

    private static void newObject() {
        CardLink x = new CardLink();
        Check.due("NONE", CardLink.NONE, -1);
        for (int what = -1; what <= 11; what++) {
            Check.due("new count(" + what + ")", x.count(what), what == 6 ? 1 : what < 0 || what > 10 ? -1 : 0);
            Check.due("new side(0, " + what + ")", x.side(0, what), -2);
            Check.due("new side(1, " + what + ")", x.side(1, what), -2);
            Check.due("new answer(" + what + ")", x.answer(what), -1);
            Check.due("new log(0, " + what + ")", Check.log(x, 0, what), -9);
        }
        Check.due("new state()", x.state(), -1);
        Check.due("new historical(0)", x.historical(0), -1);
        Check.due("new room(5)", x.room(5), -1);
        Check.due("new fault(0, 1, 0)", x.fault(0, 1, 0), -1);
        Check.due("new step(1)", x.step(1), -1);
        Check.due("new got(0, -1)", x.got(0, -1), -2);
        Check.due("new byteOf(0, 0)", x.byteOf(0, 0), -1);
        Check.due("new would(0)", x.would(0), -1);
        Check.due("new harm(1, 0)", x.harm(1, 0), -1);
        Check.due("new message()", Check.message(x, 1, 2), -1);
        Check.due("count(10): a refused message empties the tape", x.count(10), 0);
        Check.due("new repeats(3)", x.repeats(3), 1);
        Check.due("new repeats(0)", x.repeats(0), 3);
    }

    private static void tape() {
        CardLink x = new CardLink();
        for (int n = 16; n <= 96; n += 16) {
            Check.due("feed", x.feed(-1, n), n);
        }
        Check.due("feed beyond 96", x.feed(0, 0), -1);
        Check.due("count(10)", x.count(10), 96);
        Check.due("end(97)", x.end(97), -1);
        Check.due("end(-1)", x.end(-1), -1);
        Check.due("end(96)", x.end(96), 96);
        Check.due("end(81)", x.end(81), 81);
        Check.due("feed beyond 96 from 81", x.feed(0, 0), -1);
        Check.due("end(80)", x.end(80), 80);
        Check.due("feed to 96", x.feed(0, 0), 96);
        Check.due("end(0)", x.end(0), 0);
        Check.due("end(1) of none", x.end(1), -1);
        Check.due("feed", x.feed(0x3b0f818283848586L, 0x8788898a8b8c8d8eL), 16);
        Check.due("feed", x.feed(0xff00000000000000L, 0), 32);
        Check.due("end(17)", x.end(17), 17);
        Check.due("reset()", x.reset(), 15);
        for (int i = 0; i < 15; i++) {
            Check.due("historical(" + i + ")", x.historical(i), i < 14 ? 0x81 + i : 255);
        }
        Check.due("historical(15)", x.historical(15), -1);
        Check.due("historical(-1)", x.historical(-1), -1);
        Check.due("answer(6)", x.answer(6), 15);
    }

    private static void faults() {
        fails(0, 1);
        fails(0, 2, 0x3a);
        fails(0, 2, 0x3c, 0);
        fails(0, 2, 0, 0xff, 0xff);
        fails(1, 1, 0x3f);
        fails(2, 1, 0x3b, 0x10);
        fails(2, 1, 0x3b, 0x01);
        fails(2, 7, 0x3b, 0x00, 0x00);
        fails(3, 7, 0x3b, 0x01, 0x00, 0x00, 0x00);
        fails(2, 3, 0x3b, 0x80, 0x02);
        fails(2, 3, 0x3b, 0x80, 0xfe);
        fails(3, 3, 0x3b, 0x80, 0x80, 0x07);
        // A fifth group, told by the fourth one's TD; without one more group that TD is good.
        fails(5, 3, 0x3b, 0x80, 0x80, 0x80, 0x80, 0x10, 0x11);
        stands(0, 0x3b, 0x80, 0x80, 0x80, 0x80, 0x00);
        // The first along the bytes: a factor ahead of a protocol, a protocol ahead of the end.
        fails(2, 4, 0x3b, 0x90, 0x00, 0x02);
        fails(3, 3, 0x3b, 0x90, 0x11, 0x02);
        fails(4, 6, 0x3b, 0x90, 0x11, 0x01, 0x81, 0x00);
        fails(5, 7, 0x3b, 0x90, 0x11, 0x01, 0x80, 0x00);
        fails(4, 1, 0x3b, 0x90, 0x11, 0x01);
        fails(5, 1, 0x3b, 0x92, 0x11, 0x01, 0x33);
    }

    private static void factors() {
        int[] clocks = {372, 372, 558, 744, 1116, 1488, 1860, -1, -1, 512, 768, 1024, 1536, 2048, -1, -1};
        int[] divisors = {-1, 1, 2, 4, 8, 16, 32, 64, 12, 20, -1, -1, -1, -1, -1, -1};
        for (int value = 0; value < 256; value++) {
            int clock = clocks[value >> 4];
            int divisor = divisors[value & 15];
            if (clock < 0 || divisor < 0) {
                fails(2, 4, 0x3b, 0x10, value);
            } else {
                CardLink x = stands(0, 0x3b, 0x10, value);
                Check.due("answer(1) of " + value, x.answer(1), clock);
                Check.due("answer(2) of " + value, x.answer(2), divisor);
            }
        }
        CardLink x = stands(0, 0x3f, 0);
        Check.due("answer(0)", x.answer(0), 63);
        Check.due("answer(1) without TA", x.answer(1), 372);
        Check.due("answer(2) without TA", x.answer(2), 1);
        Check.due("answer(3) without TC", x.answer(3), 0);
        Check.due("answer(4) without TD", x.answer(4), 0);
        Check.due("answer(5) without groups", x.answer(5), 0);
        Check.due("answer(8) without check", x.answer(8), 0);
        Check.due("answer(9)", x.answer(9), -1);
        Check.due("answer(-1)", x.answer(-1), -1);
    }

    private static void groups() {
        // TA 0x95, TB, TC 0xff, TD tells 15 and a second group's TC.
        CardLink x = stands(2, checked(0x3b, 0xf2, 0x95, 0xee, 0xff, 0x4f, 0x77, 0xaa, 0xbb));
        Check.due("answer(1)", x.answer(1), 512);
        Check.due("answer(2)", x.answer(2), 16);
        Check.due("answer(3)", x.answer(3), 255);
        Check.due("answer(4)", x.answer(4), 15);
        Check.due("answer(5)", x.answer(5), 2);
        Check.due("answer(6)", x.answer(6), 2);
        Check.due("answer(7)", x.answer(7), 32);
        Check.due("answer(8)", x.answer(8), 1);
        Check.due("historical(0)", x.historical(0), 0xaa);
        Check.due("historical(1)", x.historical(1), 0xbb);
        // The first protocol is the first TD's, and a later one's factor and guard are not the first group's.
        x = stands(0, checked(0x3b, 0x80, 0xd0, 0x00, 0x44, 0x0f));
        Check.due("answer(4), first of two", x.answer(4), 0);
        Check.due("answer(5), a TD with nothing behind", x.answer(5), 2);
        Check.due("answer(1), no TA in group 1", x.answer(1), 372);
        Check.due("answer(3), no TC in group 1", x.answer(3), 0);
        Check.due("answer(8), by the second TD", x.answer(8), 1);
        x = stands(0, 0x3b, 0x80, 0x00);
        Check.due("answer(5), one TD", x.answer(5), 1);
        Check.due("answer(8), protocol 0 alone", x.answer(8), 0);
    }

    private static void linkGroup() {
        for (int room : new int[] {1, 2, 32, 253, 254}) {
            CardLink x = Check.cardOfRoom(room);
            Check.due("answer(7) of " + room, x.answer(7), room);
            Check.due("side(1, 2) of " + room, x.side(1, 2), room);
            Check.due("side(0, 2) of " + room, x.side(0, 2), 32);
        }
        fails(4, 5, 0x3b, 0x80, 0x81, 0x11, 0x00);
        fails(4, 5, 0x3b, 0x80, 0x81, 0x11, 0xff, 0x00);
        fails(4, 5, 0x3b, 0x80, 0x81, 0x21, 0xa0);
        fails(4, 5, 0x3b, 0x80, 0x81, 0x41, 0x01);
        fails(6, 5, 0x3b, 0x80, 0x81, 0x71, 0x10, 0x45, 0x80);
        CardLink x = stands(0, checked(0x3b, 0x80, 0x81, 0x71, 0x10, 0x9f, 0x00));
        Check.due("answer(7)", x.answer(7), 16);
        // The group behind the first group's TD is none, though it tells 1.
        x = stands(0, checked(0x3b, 0x80, 0x71, 0x00, 0xff, 0xff));
        Check.due("answer(7), group 2", x.answer(7), 32);
        // Group 4, behind the third TD.
        x = stands(0, checked(0x3b, 0x80, 0x80, 0x9f, 0x00, 0x11, 0x07));
        Check.due("answer(7), group 4", x.answer(7), 7);
        Check.due("answer(5), group 4", x.answer(5), 4);
        // Behind the first such TD alone: TA of group 4 is any byte here.
        x = stands(0, checked(0x3b, 0x80, 0x81, 0x91, 0x05, 0x71, 0x00, 0xff, 0x01));
        Check.due("answer(7), groups 3 and 4", x.answer(7), 5);
        // The first such TD tells nothing of ROOM, a later one does not stand in for it.
        x = stands(0, checked(0x3b, 0x80, 0x81, 0x81, 0x11, 0x05));
        Check.due("answer(7), group 3 without TA", x.answer(7), 32);
    }

    private static void checkAndHistorical() {
        stands(1, checked(0x3b, 0x81, 0x0f, 0x12));
        fails(4, 6, 0x3b, 0x81, 0x0f, 0x12, 0x00);
        // TS is not among the bytes of the check.
        fails(3, 6, 0x3b, 0x80, 0x01, 0x81 ^ 0x3b);
        fails(4, 7, 0x3b, 0x80, 0x01, 0x81, 0x00);
        fails(3, 1, 0x3b, 0x80, 0x01);
        fails(4, 1, 0x3b, 0x83, 0x01, 0x55);
    }

    /** Nothing of an earlier reset answer, good or refused, stays in a later one. */
    private static void oneBehindAnother() {
        CardLink x = new CardLink();
        int[] full = checked(0x3f, 0xf1, 0x95, 0x00, 0x12, 0x81, 0x91, 0x07, 0x71, 0x08, 0x09, 0x01, 0x5a);
        int[] linkInFour = checked(0x3b, 0x80, 0x80, 0x90, 0x00, 0x11, 0x08);
        for (int round = 0; round < 3; round++) {
            Check.due("reset, full", Check.reset(x, full), 1);
            int[] want = {63, 512, 16, 0x12, 1, 4, 1, 7, 1, -1};
            for (int what = 0; what < 10; what++) {
                Check.due("full answer(" + what + ")", x.answer(what), want[what]);
            }
            Check.due("reset, refused", Check.reset(x, java.util.Arrays.copyOf(full, full.length - round)), round == 0 ? 1 : -2 - (8 * (full.length - round) + 1));
            Check.due("historical(0)", x.historical(0), 0x5a);
            Check.due("historical(1)", x.historical(1), -1);
            for (int plain = 0; plain <= round; plain++) {
                Check.due("reset, plain", Check.reset(x, 0x3b, 0x00), 0);
                want = new int[] {59, 372, 1, 0, 0, 0, 0, 32, 0, -1};
                for (int what = 0; what < 10; what++) {
                    Check.due("plain answer(" + what + ")", x.answer(what), want[what]);
                }
                Check.due("historical(0)", x.historical(0), -1);
            }
            // Its group 4 is the link group, and TA of its group 3 any byte, unlike those of the full one.
            Check.due("reset, protocol 1 by the third TD", Check.reset(x, linkInFour), 0);
            Check.due("answer(7), group 4", x.answer(7), 8);
        }
    }

    private static void refusedAndAccepted() {
        CardLink x = stands(1, 0x3b, 0x01, 0x99);
        x.repeats(3);
        Check.message(x, 6, 1, 2);
        x.fault(0, 1, 0);
        x.step(5);
        x.fault(3, 3, 0);
        Check.due("a refused reset", Check.reset(x, 0x3b), -11);
        Check.due("historical(0) stays", x.historical(0), 0x99);
        Check.due("state() stays", x.state(), 2);
        Check.due("count(2) stays", x.count(2), 1);
        Check.due("count(5) stays", x.count(5), 2);
        Check.due("an accepted reset", Check.reset(x, 0x3f, 0), 0);
        Check.due("historical(0) is gone", x.historical(0), -1);
        Check.due("state() is as at first", x.state(), 0);
        for (int what = 0; what <= 10; what++) {
            Check.due("count(" + what + ") is as at first, REPEATS stay", x.count(what), what == 6 ? 3 : 0);
        }
        int[] first = {0, 0, 32, 0, 0, 0, -1, -1, -1, 0, 0};
        for (int what = 0; what <= 10; what++) {
            Check.due("side(0, " + what + ") is as at first", x.side(0, what), first[what]);
            Check.due("side(1, " + what + ") is as at first", x.side(1, what), first[what]);
        }
        Check.due("got(0, -1): none came", x.got(0, -1), -2);
        Check.due("got(1, -1): none came", x.got(1, -1), -2);
        Check.due("log(0, 0): empty", Check.log(x, 0, 0), -9);
        Check.due("message() behind it", Check.message(x, 6), 1);
        x.step(1);
        Check.due("log(0, 5) counts since reset()", Check.log(x, 0, 5), 1);
    }
}
