import java.util.Arrays;

/** "Terms" 2 at its edges: what comes of a block, letters and their faults, ROOM, and the 60 bytes of IN. */
final class BlocksTest extends Check {
    private BlocksTest() {
    }

    public static void main(String[] args) {
        everyKind();
        everyLetterTurned();
        everySetOfLost();
        spoiltAsOftenAsRepeated();
        spoiltAtEachLetter();
        twoThingsWrong();
        longerThanReadersRoom();
        longerThanCardsRoom();
        blocksByRoom();
        cardsIn();
        readersIn();
        farthestLetter();
        toldOutOfOrder();
        fullOfFaults();
        allOfThemCome();
        close();
    }

    /** What came of the block that the reader sent with its next turn. */
    private static int cameOf(CardLink x) {
        int blocks = x.step(1);
        due("log, KIND as sent", log(x, blocks - 1, 1), 0);
        return log(x, blocks - 1, 3);
    }

    private static int[] all(int n, int of) {
        int[] bytes = new int[n];
        Arrays.fill(bytes, of);
        return bytes;
    }

    /** All kinds by LEN 0, 1, 2, the one byte of INF at the edges of a ROOM: these are whole, all others BROKEN 2. */
    private static void everyKind() {
        for (int kind = 0; kind < 256; kind++) {
            for (int len = 0; len <= 2; len++) {
                for (int inf : new int[] {0, 1, 254, 255}) {
                    CardLink x = plainCard();
                    if (kind != 0) {
                        forge(x, 1, 3 + len, kind);
                    }
                    message(x, all(len, inf));
                    due("kind " + kind + ", LEN " + len + ", INF " + inf, cameOf(x), isKind(kind, len, inf) ? 0 : 2);
                }
            }
        }
    }

    private static boolean isKind(int kind, int len, int inf) {
        switch (kind) {
            case 0: case 32: case 64: case 96:
                return true;
            case 128: case 129: case 130: case 144: case 145: case 146:
            case 192: case 194: case 224: case 226:
                return len == 0;
            case 195: case 227:
                return len == 1;
            case 193: case 225:
                return len == 1 && inf != 0 && inf != 255;
            default:
                return false;
        }
    }

    private static void everyLetterTurned() {
        for (int bits = 1; bits < 256; bits++) {
            // 0, KIND, LEN, INF, CHECK: one by itself makes the CHECK another one, LEN tells other bytes.
            for (int letter = 0; letter < 5; letter++) {
                CardLink x = plainCard();
                x.fault(letter, 2, bits);
                message(x, 6);
                due("letter " + letter + " turned by " + bits, cameOf(x), letter == 2 ? 2 : 1);
            }
            // With the CHECK right again: the first byte is not 0, LEN tells other bytes, INF is any.
            for (int letter = 0; letter < 4; letter++) {
                if (letter != 1) {
                    CardLink x = plainCard();
                    forge(x, letter, 4, bits);
                    message(x, 6);
                    due("letter " + letter + " and the check turned by " + bits, cameOf(x), letter == 3 ? 0 : 2);
                    if (letter == 3) {
                        got(x, 1, 6 ^ bits);
                    }
                }
            }
        }
    }

    /** NOTHING of all, BROKEN 2 of any but none: REPEATS are not for them. */
    private static void everySetOfLost() {
        for (int set = 0; set < 64; set++) {
            CardLink x = plainCard();
            for (int letter = 0; letter < 6; letter++) {
                if ((set >> letter & 1) == 1) {
                    x.fault(letter, 3, 0);
                }
            }
            message(x, 6, 7);
            due("lost " + set, cameOf(x), set == 0 ? 0 : set == 63 ? 3 : 2);
            count(x, 0, set == 63 ? 6 : set == 0 ? 12 : 10);
            count(x, 1, 0);
            count(x, 2, 0);
            due("side(1, 9)", x.side(1, 9), set == 63 ? 0 : 1);
        }
    }

    /** Each letter of a block as often as REPEATS: it comes whole; each once more: it comes spoilt. */
    private static void spoiltAsOftenAsRepeated() {
        for (int repeats = 0; repeats <= 3; repeats++) {
            CardLink x = plainCard();
            x.repeats(repeats);
            for (int i = 0; i < 5; i++) {
                for (int k = 0; k < repeats; k++) {
                    x.fault(i * (repeats + 1) + k, 1, 0);
                }
            }
            message(x, 6);
            step(x, 1, 2);
            sent(x, "r0 c0");
            due("log(1, 4)", log(x, 1, 4), 5 * (repeats + 1));
            count(x, 1, 5 * repeats);
            count(x, 0, 5 * (repeats + 1) + 6);
            x = plainCard();
            x.repeats(repeats);
            for (int i = 0; i < 5 * (repeats + 1); i++) {
                due("fault", x.fault(i, 1, 0), i + 1);
            }
            message(x, 6);
            step(x, 1, 2);
            // All of its letters spoilt: that is not NOTHING, and no bit of them is another.
            sent(x, "r0/1 c129");
            due("log(1, 4)", log(x, 1, 4), 5 * (repeats + 1));
            count(x, 1, 5 * repeats);
            count(x, 2, 0);
        }
    }

    private static void spoiltAtEachLetter() {
        for (int letter = 0; letter < 5; letter++) {
            for (int repeats = 0; repeats <= 3; repeats++) {
                for (int spoilt = 1; spoilt <= repeats + 1; spoilt++) {
                    CardLink x = plainCard();
                    x.repeats(repeats);
                    for (int k = 0; k < spoilt; k++) {
                        x.fault(letter + k, 1, 0);
                    }
                    message(x, 6);
                    due("letter " + letter + " spoilt " + spoilt + " times", cameOf(x), spoilt > repeats ? 1 : 0);
                    due("log(1, 4)", log(x, 1, 4), 5 + Math.min(spoilt, repeats));
                    count(x, 1, Math.min(spoilt, repeats));
                    // What is sent again is a letter like others: lost, or turned with its parity right.
                    for (int kind = 2; kind <= 3 && spoilt <= repeats; kind++) {
                        x = plainCard();
                        x.repeats(repeats);
                        for (int k = 0; k < spoilt; k++) {
                            x.fault(letter + k, 1, 0);
                        }
                        x.fault(letter + spoilt, kind, kind == 2 ? 1 : 0);
                        message(x, 6);
                        due("spoilt, then of kind " + kind, cameOf(x), kind == 3 || letter == 2 ? 2 : 1);
                        due("log(1, 4)", log(x, 1, 4), 5 + spoilt);
                    }
                }
            }
        }
        // Not sent again, so the next letter is the next byte's.
        CardLink x = plainCard();
        x.repeats(0);
        x.fault(0, 1, 0);
        x.fault(1, 2, 64);
        x.fault(4, 2, 64);
        message(x, 6);
        due("REPEATS 0", cameOf(x), 1);
        due("log(1, 4)", log(x, 1, 4), 5);
    }

    /** LOST and LEN ahead of SPOILT and CHECK, these ahead of the rest. */
    private static void twoThingsWrong() {
        int[][] told = {{0, 1, 4, 3, 2}, {0, 3, 4, 1, 2}, {0, 2, 4, 3, 2}, {1, 1, 2, 2, 2}, {2, 2, 4, 1, 2}, {2, 2, 4, 2, 2},
            {0, 2, 1, 1, 1}, {1, 2, 3, 1, 1}, {0, 2, 1, 2, 2}, {0, 2, 4, 2, 2}, {3, 2, 4, 2, 0}, {3, 1, 4, 2, 1}};
        for (int[] t : told) {
            CardLink x = plainCard();
            x.repeats(0);
            x.fault(t[0], t[1], t[1] == 2 ? 1 : 0);
            x.fault(t[2], t[3], t[3] == 2 ? 1 : 0);
            message(x, 6);
            due(Arrays.toString(t), cameOf(x), t[4]);
        }
    }

    /** 25 bytes pending at the card, whose ROOM at the reader is another one by then. */
    private static void longerThanReadersRoom() {
        for (int room : new int[] {24, 25, 26}) {
            CardLink x = plainCard();
            message(x, 1, 25);
            step(x, 60, 2);
            x.room(room);
            step(x, 60, 2);
            side(x, 0, 2, room);
            // The reader's empty I comes as R by the number of what is pending.
            forge(x, 1, 3, 64 ^ 128);
            message(x);
            step(x, 1, 2);
            sent(x, room < 25 ? "r64 c0/2" : "r64 c0");
            step(x, 1, 2);
            sent(x, "r146 c144");
        }
    }

    /** Four bytes pending at the reader when the card asks for a ROOM; then it is made to send them again. */
    private static void longerThanCardsRoom() {
        for (int room : new int[] {3, 4, 5}) {
            CardLink x = plainCard();
            x.fault(18, 3, 0);
            forge(x, 24, 26, 130 ^ 226);
            forge(x, 28, 30, 146 ^ 130);
            message(x, 3, room, 0, 0);
            step(x, 4, 8);
            side(x, 1, 2, room);
            sent(x, "r0 c193 r225 c0/2 r130 c146 " + (room < 4 ? "r0/2" : "r0") + " c146");
            count(x, 3, 2);
        }
    }

    /** An empty message is one block; of others each as long as ROOM lets, the last one without MORE. */
    private static void blocksByRoom() {
        for (int room : new int[] {1, 2, 19, 20, 21, 29, 30, 31, 59, 60, 61, 253, 254}) {
            for (int n : new int[] {0, 1, 2, 19, 20, 21, 30, 31, 58, 59, 60}) {
                CardLink x = cardOfRoom(room);
                int[] m = new int[n];
                for (int i = 0; i < n; i++) {
                    m[i] = 6 + i;
                }
                int blocks = 1;
                while (blocks * room < n) {
                    blocks++;
                }
                due("message of " + n + " by room " + room, message(x, m), blocks);
                for (int sent = 1; sent <= blocks; sent++) {
                    step(x, 1, 2);
                    due("log(1, 2)", log(x, 1, 2), sent < blocks ? room : n - (blocks - 1) * room);
                    due("log(1, 1)", log(x, 1, 1), (sent % 2 == 0 ? 64 : 0) + (sent < blocks ? 32 : 0));
                    due("side(0, 4)", x.side(0, 4), (sent - 1) * room);
                    due("side(1, 5)", x.side(1, 5), sent < blocks ? sent * room : 0);
                }
                got(x, 1, m);
                step(x, 1, 0);
                side(x, 0, 4, n);
                state(x, 2);
            }
        }
    }

    /**
     * The last block of a message comes to the card with MORE, and one of its receipts to the reader as an I block:
     * the bytes of the next message come behind it, up to 60.
     */
    private static void cardsIn() {
        for (int n : new int[] {57, 58, 59, 60}) {
            CardLink x = plainCard();
            forge(x, 41, n + 11, 32);
            forge(x, n + 21, n + 23, 128);
            int[] m = new int[n];
            for (int i = 0; i < n; i++) {
                m[i] = 8 + i;
            }
            message(x, m);
            step(x, 4, 6);
            sent(x, "r32 c144 r64 c128 r128 c128");
            state(x, 2);
            got(x, 0);
            side(x, 1, 5, n);
            due("got(1, -1): none came", x.got(1, -1), -2);
            message(x, 201, 202, 203);
            step(x, 1, 2);
            int[] want = Arrays.copyOf(m, 60);
            for (int i = n; i < 60; i++) {
                want[i] = 201 + i - n;
            }
            got(x, 1, want);
            side(x, 1, 5, 0);
        }
    }

    /** The last block of an answer comes to the reader with MORE, then once more by the number that is wanted. */
    private static void readersIn() {
        for (int n : new int[] {57, 58, 59, 60}) {
            CardLink x = plainCard();
            forge(x, 47, n + 17, 32);
            forge(x, n + 19, n + 21, 16);
            forge(x, n + 23, 2 * n - 7, 64);
            message(x, 1, n);
            step(x, 3, 6);
            sent(x, "r0 c32 r144 c64 r128 c64");
            side(x, 0, 5, n);
            due("would(3)", x.would(3), 60);
            step(x, 60, 0);
            state(x, 2);
            side(x, 0, 5, 0);
            int[] want = new int[60];
            for (int i = 0; i < 60; i++) {
                want[i] = i < n ? i : 32 + i - n;
            }
            got(x, 0, want);
        }
    }

    /** 999 behind the next one, counted from the letters sent so far. */
    private static void farthestLetter() {
        for (int ahead = 0; ahead <= 1; ahead++) {
            CardLink x = plainCard();
            for (int i = 0; i < ahead; i++) {
                message(x);
                step(x, 2, 2);
            }
            due("fault(999, 3, 0)", x.fault(999, 3, 0), 1);
            for (int i = 0; i < 6; i++) {
                message(x, new int[60]);
                step(x, 60, 6);
            }
            for (int i = 0; i < 16; i++) {
                message(x);
                step(x, 60, 2);
            }
            count(x, 0, 8 * ahead + 992);
            count(x, 2, 1);
            message(x);
            step(x, 1, 2);
            // The last letter of the card's block, the 1000th from then on.
            count(x, 2, 0);
            due("log(1, 3)", log(x, 1, 3), 0);
            due("log(0, 3)", log(x, 0, 3), 2);
        }
    }

    /** Each keeps its letter, its kind and its bits, in whatever order they are told. */
    private static void toldOutOfOrder() {
        int[][][] orders = {{{0, 3, 0}, {17, 2, 16}, {15, 2, 16}}, {{15, 2, 16}, {0, 3, 0}, {17, 2, 16}},
            {{17, 2, 16}, {15, 2, 16}, {0, 3, 0}}, {{15, 2, 5}, {17, 2, 16}, {15, 1, 0}, {0, 2, 77}, {15, 2, 16}, {0, 3, 0}}};
        for (int[][] order : orders) {
            CardLink x = plainCard();
            for (int[] f : order) {
                x.fault(f[0], f[1], f[2]);
            }
            count(x, 2, 3);
            message(x, 6, 1, 1);
            step(x, 1, 2);
            sent(x, "r0/2 c130");
            step(x, 1, 2);
            // Of the block sent again, letters 11 to 17, the second byte of INF is turned, and the CHECK.
            sent(x, "r0 c0");
            got(x, 1, 6, 17, 1);
            count(x, 2, 0);
        }
    }

    private static void fullOfFaults() {
        CardLink x = plainCard();
        for (int i = 0; i < 24; i++) {
            due("fault", x.fault(i == 0 ? 0 : 900 + i, 3, 0), i + 1);
        }
        for (int letter : new int[] {0, 1, 901, 924, 999}) {
            due("fault, 24 there are", x.fault(letter, 1, 0), -1);
            due("fault, 24 there are", x.fault(letter, 2, 1), -1);
        }
        count(x, 2, 24);
        message(x, 6);
        step(x, 1, 2);
        sent(x, "r0/2 c130");
        count(x, 2, 23);
        due("fault behind one that came", x.fault(0, 1, 0), 24);
        due("fault, 24 there are again", x.fault(1, 1, 0), -1);
        step(x, 60, 2);
        count(x, 1, 1);
        // None of them by a reset answer, and the same letters are free again.
        due("reset()", reset(x, 0x3b, 0), 0);
        count(x, 2, 0);
        due("fault", x.fault(0, 3, 0), 1);
    }

    /** 24 LOST letters, the first ones, told in any order: six blocks of the reader of which nothing comes, and it is dead. */
    private static void allOfThemCome() {
        for (int stride : new int[] {1, 23, 5, 7, 11}) {
            CardLink x = plainCard();
            for (int i = 0; i < 24; i++) {
                due("fault", x.fault((i + 1) * stride % 24, 3, 0), i + 1);
            }
            message(x);
            step(x, 5, 5);
            count(x, 2, 4);
            step(x, 60, 1);
            sent(x, "r0/3 r130/3 r130/3 r192/3 r192/3 r192/3");
            state(x, 4);
            count(x, 2, 0);
        }
    }
}
