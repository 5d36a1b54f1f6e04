/** Promises 1 to 6: a new object, the tape, the reset answer. */
final class ResetAnswerTest extends Check {
    private ResetAnswerTest() {
    }

    public static void main(String[] args) {
        newObject();
        tape();
        faults();
        factors();
        groups();
        linkGroup();
        checkAndHistorical();
        refusedAndAccepted();
        oneBehindAnother();
        tapeKeepsItsBytes();
        everyTs();
        everyMaskOfT0();
        historicalBytes();
        everyProtocol();
        fifthGroup();
        longest();
        everyLinkByte();
        noLinkGroup();
        everyCheck();
        firstAlongTheBytes();
        close();
    }

    private static void fails(int place, int kind, int... bytes) {
        CardLink x = new CardLink();
        due("reset of " + java.util.Arrays.toString(bytes), reset(x, bytes), -2 - (8 * place + kind));
        due("state() behind a refused reset", x.state(), -1);
        due("count(10) behind a refused reset", x.count(10), 0);
    }

    private static CardLink stands(int historical, int... bytes) {
        CardLink x = new CardLink();
        due("reset of " + java.util.Arrays.toString(bytes), reset(x, bytes), historical);
        return x;
    }

    private static void newObject() {
        CardLink x = new CardLink();
        due("NONE", CardLink.NONE, -1);
        for (int what = -1; what <= 11; what++) {
            due("new count(" + what + ")", x.count(what), what == 6 ? 1 : what < 0 || what > 10 ? -1 : 0);
            due("new side(0, " + what + ")", x.side(0, what), -2);
            due("new side(1, " + what + ")", x.side(1, what), -2);
            due("new answer(" + what + ")", x.answer(what), -1);
            due("new log(0, " + what + ")", log(x, 0, what), -9);
        }
        due("new state()", x.state(), -1);
        due("new historical(0)", x.historical(0), -1);
        due("new room(5)", x.room(5), -1);
        due("new fault(0, 1, 0)", x.fault(0, 1, 0), -1);
        due("new step(1)", x.step(1), -1);
        due("new got(0, -1)", x.got(0, -1), -2);
        due("new byteOf(0, 0)", x.byteOf(0, 0), -1);
        due("new would(0)", x.would(0), -1);
        due("new harm(1, 0)", x.harm(1, 0), -1);
        due("new message()", message(x, 1, 2), -1);
        due("count(10): a refused message empties the tape", x.count(10), 0);
        due("new repeats(3)", x.repeats(3), 1);
        due("new repeats(0)", x.repeats(0), 3);
    }

    private static void tape() {
        CardLink x = new CardLink();
        for (int n = 16; n <= 96; n += 16) {
            due("feed", x.feed(-1, n), n);
        }
        due("feed beyond 96", x.feed(0, 0), -1);
        due("count(10)", x.count(10), 96);
        due("end(97)", x.end(97), -1);
        due("end(-1)", x.end(-1), -1);
        due("end(96)", x.end(96), 96);
        due("end(81)", x.end(81), 81);
        due("feed beyond 96 from 81", x.feed(0, 0), -1);
        due("end(80)", x.end(80), 80);
        due("feed to 96", x.feed(0, 0), 96);
        due("end(0)", x.end(0), 0);
        due("end(1) of none", x.end(1), -1);
        due("feed", x.feed(0x3b0f818283848586L, 0x8788898a8b8c8d8eL), 16);
        due("feed", x.feed(0xff00000000000000L, 0), 32);
        due("end(17)", x.end(17), 17);
        due("reset()", x.reset(), 15);
        for (int i = 0; i < 15; i++) {
            due("historical(" + i + ")", x.historical(i), i < 14 ? 0x81 + i : 255);
        }
        due("historical(15)", x.historical(15), -1);
        due("historical(-1)", x.historical(-1), -1);
        due("answer(6)", x.answer(6), 15);
    }

    private static void faults() {
        fails(0, 1);
        fails(0, 2, 0x3a);
        fails(0, 2, 0x3c, 0);
        fails(0, 2, 0, 0xff, 0xff);
        fails(1, 1, 0x3f);
        fails(2, 1, 0x3b, 0x10);
        fails(2, 1, 0x3b, 0x01);
        fails(2, 7, 0x3b, 0x00, 0x00);
        fails(3, 7, 0x3b, 0x01, 0x00, 0x00, 0x00);
        fails(2, 3, 0x3b, 0x80, 0x02);
        fails(2, 3, 0x3b, 0x80, 0xfe);
        fails(3, 3, 0x3b, 0x80, 0x80, 0x07);
        // A fifth group, told by the fourth one's TD; without one more group that TD is good.
        fails(5, 3, 0x3b, 0x80, 0x80, 0x80, 0x80, 0x10, 0x11);
        stands(0, 0x3b, 0x80, 0x80, 0x80, 0x80, 0x00);
        // The first along the bytes: a factor ahead of a protocol, a protocol ahead of the end.
        fails(2, 4, 0x3b, 0x90, 0x00, 0x02);
        fails(3, 3, 0x3b, 0x90, 0x11, 0x02);
        fails(4, 6, 0x3b, 0x90, 0x11, 0x01, 0x81, 0x00);
        fails(5, 7, 0x3b, 0x90, 0x11, 0x01, 0x80, 0x00);
        fails(4, 1, 0x3b, 0x90, 0x11, 0x01);
        fails(5, 1, 0x3b, 0x92, 0x11, 0x01, 0x33);
    }

    private static void factors() {
        int[] clocks = {372, 372, 558, 744, 1116, 1488, 1860, -1, -1, 512, 768, 1024, 1536, 2048, -1, -1};
        int[] divisors = {-1, 1, 2, 4, 8, 16, 32, 64, 12, 20, -1, -1, -1, -1, -1, -1};
        for (int value = 0; value < 256; value++) {
            int clock = clocks[value >> 4];
            int divisor = divisors[value & 15];
            if (clock < 0 || divisor < 0) {
                fails(2, 4, 0x3b, 0x10, value);
            } else {
                CardLink x = stands(0, 0x3b, 0x10, value);
                due("answer(1) of " + value, x.answer(1), clock);
                due("answer(2) of " + value, x.answer(2), divisor);
            }
        }
        CardLink x = stands(0, 0x3f, 0);
        due("answer(0)", x.answer(0), 63);
        due("answer(1) without TA", x.answer(1), 372);
        due("answer(2) without TA", x.answer(2), 1);
        due("answer(3) without TC", x.answer(3), 0);
        due("answer(4) without TD", x.answer(4), 0);
        due("answer(5) without groups", x.answer(5), 0);
        due("answer(8) without check", x.answer(8), 0);
        due("answer(9)", x.answer(9), -1);
        due("answer(-1)", x.answer(-1), -1);
    }

    private static void groups() {
        // TA 0x95, TB, TC 0xff, TD tells 15 and a second group's TC.
        CardLink x = stands(2, checked(0x3b, 0xf2, 0x95, 0xee, 0xff, 0x4f, 0x77, 0xaa, 0xbb));
        due("answer(1)", x.answer(1), 512);
        due("answer(2)", x.answer(2), 16);
        due("answer(3)", x.answer(3), 255);
        due("answer(4)", x.answer(4), 15);
        due("answer(5)", x.answer(5), 2);
        due("answer(6)", x.answer(6), 2);
        due("answer(7)", x.answer(7), 32);
        due("answer(8)", x.answer(8), 1);
        due("historical(0)", x.historical(0), 0xaa);
        due("historical(1)", x.historical(1), 0xbb);
        // The first protocol is the first TD's, and a later one's factor and guard are not the first group's.
        x = stands(0, checked(0x3b, 0x80, 0xd0, 0x00, 0x44, 0x0f));
        due("answer(4), first of two", x.answer(4), 0);
        due("answer(5), a TD with nothing behind", x.answer(5), 2);
        due("answer(1), no TA in group 1", x.answer(1), 372);
        due("answer(3), no TC in group 1", x.answer(3), 0);
        due("answer(8), by the second TD", x.answer(8), 1);
        x = stands(0, 0x3b, 0x80, 0x00);
        due("answer(5), one TD", x.answer(5), 1);
        due("answer(8), protocol 0 alone", x.answer(8), 0);
    }

    private static void linkGroup() {
        for (int room : new int[] {1, 2, 32, 253, 254}) {
            CardLink x = cardOfRoom(room);
            due("answer(7) of " + room, x.answer(7), room);
            due("side(1, 2) of " + room, x.side(1, 2), room);
            due("side(0, 2) of " + room, x.side(0, 2), 32);
        }
        fails(4, 5, 0x3b, 0x80, 0x81, 0x11, 0x00);
        fails(4, 5, 0x3b, 0x80, 0x81, 0x11, 0xff, 0x00);
        fails(4, 5, 0x3b, 0x80, 0x81, 0x21, 0xa0);
        fails(4, 5, 0x3b, 0x80, 0x81, 0x41, 0x01);
        fails(6, 5, 0x3b, 0x80, 0x81, 0x71, 0x10, 0x45, 0x80);
        CardLink x = stands(0, checked(0x3b, 0x80, 0x81, 0x71, 0x10, 0x9f, 0x00));
        due("answer(7)", x.answer(7), 16);
        // The group behind the first group's TD is none, though it tells 1.
        x = stands(0, checked(0x3b, 0x80, 0x71, 0x00, 0xff, 0xff));
        due("answer(7), group 2", x.answer(7), 32);
        // Group 4, behind the third TD.
        x = stands(0, checked(0x3b, 0x80, 0x80, 0x9f, 0x00, 0x11, 0x07));
        due("answer(7), group 4", x.answer(7), 7);
        due("answer(5), group 4", x.answer(5), 4);
        // Behind the first such TD alone: TA of group 4 is any byte here.
        x = stands(0, checked(0x3b, 0x80, 0x81, 0x91, 0x05, 0x71, 0x00, 0xff, 0x01));
        due("answer(7), groups 3 and 4", x.answer(7), 5);
        // The first such TD tells nothing of ROOM, a later one does not stand in for it.
        x = stands(0, checked(0x3b, 0x80, 0x81, 0x81, 0x11, 0x05));
        due("answer(7), group 3 without TA", x.answer(7), 32);
    }

    private static void checkAndHistorical() {
        stands(1, checked(0x3b, 0x81, 0x0f, 0x12));
        fails(4, 6, 0x3b, 0x81, 0x0f, 0x12, 0x00);
        // TS is not among the bytes of the check.
        fails(3, 6, 0x3b, 0x80, 0x01, 0x81 ^ 0x3b);
        fails(4, 7, 0x3b, 0x80, 0x01, 0x81, 0x00);
        fails(3, 1, 0x3b, 0x80, 0x01);
        fails(4, 1, 0x3b, 0x83, 0x01, 0x55);
    }

    /** Nothing of an earlier reset answer, good or refused, stays in a later one. */
    private static void oneBehindAnother() {
        CardLink x = new CardLink();
        int[] full = checked(0x3f, 0xf1, 0x95, 0x00, 0x12, 0x81, 0x91, 0x07, 0x71, 0x08, 0x09, 0x01, 0x5a);
        int[] linkInFour = checked(0x3b, 0x80, 0x80, 0x90, 0x00, 0x11, 0x08);
        for (int round = 0; round < 3; round++) {
            due("reset, full", reset(x, full), 1);
            int[] want = {63, 512, 16, 0x12, 1, 4, 1, 7, 1, -1};
            for (int what = 0; what < 10; what++) {
                due("full answer(" + what + ")", x.answer(what), want[what]);
            }
            due("reset, refused", reset(x, java.util.Arrays.copyOf(full, full.length - round)), round == 0 ? 1 : -2 - (8 * (full.length - round) + 1));
            due("historical(0)", x.historical(0), 0x5a);
            due("historical(1)", x.historical(1), -1);
            for (int plain = 0; plain <= round; plain++) {
                due("reset, plain", reset(x, 0x3b, 0x00), 0);
                want = new int[] {59, 372, 1, 0, 0, 0, 0, 32, 0, -1};
                for (int what = 0; what < 10; what++) {
                    due("plain answer(" + what + ")", x.answer(what), want[what]);
                }
                due("historical(0)", x.historical(0), -1);
            }
            // Its group 4 is the link group, and TA of its group 3 any byte, unlike those of the full one.
            due("reset, protocol 1 by the third TD", reset(x, linkInFour), 0);
            due("answer(7), group 4", x.answer(7), 8);
        }
    }

    private static void refusedAndAccepted() {
        CardLink x = stands(1, 0x3b, 0x01, 0x99);
        x.repeats(3);
        message(x, 6, 1, 2);
        x.fault(0, 1, 0);
        x.step(5);
        x.fault(3, 3, 0);
        due("a refused reset", reset(x, 0x3b), -11);
        due("historical(0) stays", x.historical(0), 0x99);
        due("state() stays", x.state(), 2);
        due("count(2) stays", x.count(2), 1);
        due("count(5) stays", x.count(5), 2);
        due("an accepted reset", reset(x, 0x3f, 0), 0);
        due("historical(0) is gone", x.historical(0), -1);
        due("state() is as at first", x.state(), 0);
        for (int what = 0; what <= 10; what++) {
            due("count(" + what + ") is as at first, REPEATS stay", x.count(what), what == 6 ? 3 : 0);
        }
        int[] first = {0, 0, 32, 0, 0, 0, -1, -1, -1, 0, 0};
        for (int what = 0; what <= 10; what++) {
            due("side(0, " + what + ") is as at first", x.side(0, what), first[what]);
            due("side(1, " + what + ") is as at first", x.side(1, what), first[what]);
        }
        due("got(0, -1): none came", x.got(0, -1), -2);
        due("got(1, -1): none came", x.got(1, -1), -2);
        due("log(0, 0): empty", log(x, 0, 0), -9);
        due("message() behind it", message(x, 6), 1);
        x.step(1);
        due("log(0, 5) counts since reset()", log(x, 0, 5), 1);
    }

    private static int[] first(int n, int... bytes) {
        return java.util.Arrays.copyOf(bytes, n);
    }

    /** What feed and end refuse leaves the bytes of the tape as they were, and end keeps the first ones. */
    private static void tapeKeepsItsBytes() {
        CardLink x = plainCard();
        for (int half = 8; half < 104; half += 16) {
            x.feed(run(half), run(half + 8));
        }
        due("feed at 96", x.feed(-1, -1), -1);
        due("end(97)", x.end(97), -1);
        due("end(-1)", x.end(-1), -1);
        due("end(min)", x.end(Integer.MIN_VALUE), -1);
        due("end(max)", x.end(Integer.MAX_VALUE), -1);
        due("count(10)", x.count(10), 96);
        due("end(81)", x.end(81), 81);
        due("feed at 81", x.feed(-1, -1), -1);
        due("count(10)", x.count(10), 81);
        due("end(82)", x.end(82), -1);
        due("end(81) of 81", x.end(81), 81);
        due("end(60)", x.end(60), 60);
        due("message() of them", x.message(), 2);
        x.step(60);
        for (int i = 0; i < 60; i++) {
            due("got(1, " + i + ")", x.got(1, i), 8 + i);
        }
        // Behind what end left, and the highest byte of a number below 0 as well.
        due("feed", x.feed(run(0), run(8)), 16);
        due("end(1)", x.end(1), 1);
        due("feed", x.feed(0xff80818283848586L, 0x8788898a8b8c8d00L), 17);
        due("message()", x.message(), 1);
        x.step(60);
        int[] want = {0, 255, 0x80, 0x81, 0x82, 0x83, 0x84, 0x85, 0x86, 0x87, 0x88, 0x89, 0x8a, 0x8b, 0x8c, 0x8d, 0};
        got(x, 1, want);
        due("end(0) of none", x.end(0), 0);
        due("end(1) of none", x.end(1), -1);
    }

    private static long run(int from) {
        long all = 0;
        for (int i = from; i < from + 8; i++) {
            all = all << 8 | i;
        }
        return all;
    }

    private static void everyTs() {
        for (int ts = 0; ts < 256; ts++) {
            if (ts == 59 || ts == 63) {
                due("answer(0)", stands(0, ts, 0).answer(0), ts);
                fails(1, 1, ts);
            } else {
                fails(0, 2, ts, 0);
                fails(0, 2, ts);
            }
        }
    }

    /** The bits 16, 32, 64, 128 of T0 tell TA, TB, TC, TD, in this order. */
    private static void everyMaskOfT0() {
        int[] letters = {0x95, 0xff, 0x21, 0x00};
        for (int mask = 0; mask < 16; mask++) {
            int[] all = {0x3b, mask << 4, 0, 0, 0, 0};
            int n = 2;
            for (int bit = 0; bit < 4; bit++) {
                if ((mask >> bit & 1) == 1) {
                    all[n++] = letters[bit];
                }
            }
            CardLink x = stands(0, first(n, all));
            due("answer(1)", x.answer(1), (mask & 1) == 1 ? 512 : 372);
            due("answer(2)", x.answer(2), (mask & 1) == 1 ? 16 : 1);
            due("answer(3)", x.answer(3), (mask & 4) == 4 ? 0x21 : 0);
            due("answer(5)", x.answer(5), mask == 0 ? 0 : 1);
            for (int shorter = 0; shorter < n; shorter++) {
                fails(shorter, 1, first(shorter, all));
            }
            all = first(n + 1, all);
            fails(n, 7, all);
            if (mask > 7) {
                all[n - 1] = 0x02;
                fails(n - 1, 3, all);
            }
        }
        due("answer(3) of 255", stands(0, 0x3b, 0x40, 255).answer(3), 255);
    }

    /** 0 to 15 of them, one too few, one too many. */
    private static void historicalBytes() {
        for (int n = 0; n < 16; n++) {
            int[] all = new int[n + 3];
            all[0] = 0x3f;
            all[1] = n;
            for (int i = 0; i < n; i++) {
                all[2 + i] = 255 - i;
            }
            CardLink x = stands(n, first(n + 2, all));
            due("answer(6)", x.answer(6), n);
            for (int i = 0; i < n; i++) {
                due("historical(" + i + ")", x.historical(i), 255 - i);
            }
            due("historical(" + n + ")", x.historical(n), -1);
            due("historical(-1)", x.historical(-1), -1);
            due("historical(max)", x.historical(Integer.MAX_VALUE), -1);
            due("historical(min)", x.historical(Integer.MIN_VALUE), -1);
            fails(n + 1, 1, first(n + 1, all));
            fails(n + 2, 7, all);
        }
    }

    /** 0, 1 and 15 alone, told by any group's TD; one other than 0 brings the check. */
    private static void everyProtocol() {
        for (int group = 1; group <= 4; group++) {
            for (int protocol = 0; protocol < 16; protocol++) {
                int[] all = {0x3b, 0x80, 0x80, 0x80, 0x80, 0x80};
                all[1 + group] = protocol;
                all = first(2 + group, all);
                if (protocol != 0 && protocol != 1 && protocol != 15) {
                    fails(1 + group, 3, all);
                    continue;
                }
                if (protocol != 0) {
                    fails(2 + group, 1, all);
                    all = checked(all);
                }
                CardLink x = stands(0, all);
                due("answer(4)", x.answer(4), group == 1 ? protocol : 0);
                due("answer(5)", x.answer(5), group);
                due("answer(8)", x.answer(8), protocol == 0 ? 0 : 1);
                fails(all.length, 7, first(all.length + 1, all));
            }
        }
        // The first one counts, and a check that a TD brought stays behind one that tells 0.
        for (int one : new int[] {1, 15}) {
            CardLink x = stands(0, checked(0x3b, 0x80, 0x80 + one, 0x00));
            due("answer(4)", x.answer(4), one);
            due("answer(8)", x.answer(8), 1);
            fails(4, 1, 0x3b, 0x80, 0x80 + one, 0x00);
        }
    }

    private static void fifthGroup() {
        for (int mask = 1; mask < 16; mask++) {
            for (int protocol : new int[] {0, 1, 15}) {
                fails(5, 3, 0x3b, 0x80, 0x80, 0x80, 0x80, mask << 4 | protocol);
                fails(5, 3, 0x3b, 0x80, 0x80, 0x80, 0x80, mask << 4 | protocol, 0x11, 0x11, 0x11, 0x11, 0x11);
                // Of the third group's TD it is just the fourth one.
                fails(5, 1, 0x3b, 0x80, 0x80, 0x80, mask << 4 | protocol);
            }
        }
    }

    /** Four full groups, 15 historical bytes and a check, as far as the tape reaches behind it. */
    private static void longest() {
        int[] all = checked(0x3b, 0xff, 0x96, 0xff, 0xff, 0xf1, 0xff, 0xff, 0xff, 0xf1, 254, 0x9f, 0x00, 0xff, 0xff, 0xff, 0xff, 0x0f,
            1, 2, 3, 4, 5, 6, 7, 8, 9, 10, 11, 12, 13, 14, 15);
        CardLink x = stands(15, all);
        int[] want = {59, 512, 32, 255, 1, 4, 15, 254, 1};
        for (int what = 0; what < 9; what++) {
            due("answer(" + what + ")", x.answer(what), want[what]);
        }
        due("historical(14)", x.historical(14), 15);
        for (int n = 0; n < all.length; n++) {
            fails(n, 1, first(n, all));
        }
        for (int n = all.length + 1; n <= 96; n++) {
            fails(all.length, 7, first(n, all));
        }
    }

    /** TA, TB, TC of the group behind the first such TD: of group 3, and of group 4 behind a second group's TD of 0 or 15. */
    private static void everyLinkByte() {
        int[][] ahead = {{0x3b, 0x80, 0x80, 0x01}, {0x3b, 0x80, 0x81, 0x01}, {0x3b, 0x80, 0x80, 0x80, 0x01}, {0x3b, 0x80, 0x81, 0x8f, 0x01}};
        for (int[] head : ahead) {
            int place = head.length;
            for (int value = 0; value < 256; value++) {
                int[] all = first(place + 1, head);
                all[place] = value;
                all[place - 1] = 0x11;
                if (value == 0 || value == 255) {
                    fails(place, 5, all);
                } else {
                    CardLink x = stands(0, checked(all));
                    due("answer(7)", x.answer(7), value);
                    due("side(1, 2)", x.side(1, 2), value);
                    due("side(0, 2)", x.side(0, 2), 32);
                }
                all[place - 1] = 0x21;
                if (value > 0x9f) {
                    fails(place, 5, all);
                } else {
                    due("answer(7)", stands(0, checked(all)).answer(7), 32);
                }
                all[place - 1] = 0x41;
                if (value > 0) {
                    fails(place, 5, all);
                } else {
                    due("answer(7)", stands(0, checked(all)).answer(7), 32);
                }
            }
        }
    }

    /** Any TA, TB, TC of the second group, of one behind a TD of 0 or 15, and of one behind the second such TD. */
    private static void noLinkGroup() {
        int[][] ahead = {{0x3b, 0x80, 0x71}, {0x3b, 0x80, 0x7f}, {0x3b, 0x80, 0x81, 0x70}, {0x3b, 0x80, 0x81, 0x7f},
            {0x3b, 0x80, 0x81, 0x80, 0x70}, {0x3b, 0x80, 0x81, 0x81, 0x71}, {0x3b, 0x80, 0x80, 0x81, 0x71}, {0x3b, 0x80, 0x81, 0x81, 0x7f}};
        for (int[] head : ahead) {
            for (int value : new int[] {0, 255}) {
                int n = head.length;
                int[] all = first(n + 3, head);
                all[n] = value;
                all[n + 1] = value;
                all[n + 2] = value;
                CardLink x = stands(0, checked(all));
                due("answer(7)", x.answer(7), 32);
                due("side(1, 2)", x.side(1, 2), 32);
                due("answer(3)", x.answer(3), 0);
            }
        }
    }

    /** One value alone is right, at whatever place it stands. */
    private static void everyCheck() {
        for (int[] all : new int[][] {{0x3b, 0x80, 0x01}, {0x3f, 0x82, 0x0f, 0xaa, 0x55}}) {
            int[] right = checked(all);
            for (int value = 0; value < 256; value++) {
                int[] other = right.clone();
                other[all.length] = value;
                if (value == right[all.length]) {
                    stands(all.length - 3, other);
                } else {
                    fails(all.length, 6, other);
                    fails(all.length, 6, first(all.length + 4, other));
                }
            }
        }
        // Each byte from T0 on is among them.
        int[] full = checked(0x3b, 0xf2, 0x11, 0x00, 0x00, 0xf1, 0x00, 0x00, 0x00, 0x71, 0x20, 0x45, 0x00, 0x31, 0x32);
        stands(2, full);
        for (int place : new int[] {3, 4, 6, 7, 8, 10, 11, 13, 14}) {
            int[] other = full.clone();
            other[place] ^= 1;
            fails(15, 6, other);
        }
    }

    /** Of two faults the one whose byte comes first. */
    private static void firstAlongTheBytes() {
        fails(0, 2, 0x3a, 0x10, 0x00);
        fails(2, 4, 0x3b, 0x90, 0x70, 0x02);
        fails(2, 4, 0x3b, 0x90, 0x00);
        fails(2, 3, 0x3b, 0x80, 0x92, 0x00);
        fails(3, 3, 0x3b, 0x80, 0x81, 0x12, 0x00);
        fails(4, 5, 0x3b, 0x80, 0x81, 0x71, 0xff, 0xa0, 0x01);
        fails(5, 5, 0x3b, 0x80, 0x81, 0x71, 0x20, 0xa0, 0x01);
        fails(6, 5, 0x3b, 0x80, 0x81, 0xf1, 0x20, 0x45, 0x01, 0x02);
        fails(7, 3, 0x3b, 0x80, 0x81, 0xf1, 0x20, 0x45, 0x00, 0x02, 0x00, 0x00);
        fails(4, 5, 0x3b, 0x85, 0x81, 0x11, 0x00);
        fails(5, 3, 0x3b, 0x85, 0x80, 0x80, 0x80, 0x12);
        fails(5, 1, 0x3b, 0x83, 0x01, 0xff, 0xff);
        fails(6, 1, 0x3b, 0x83, 0x01, 0xff, 0xff, 0xff);
        fails(6, 6, 0x3b, 0x83, 0x01, 0xff, 0xff, 0xff, 0x00, 0x00);
    }
}
