/** Promises 17 and 18: would and harm. */
final class ForecastTest {
    private ForecastTest() {
    }

    public static void main(String[] args) {
        readme();
        wouldBe();
        endless();
        byHand();
        inPlaceOfOneTold();
        notDone();
        anotherMessage();
        whatIsAskedAlready();
        noMessageThen();
        sentAgain();
        fullOfFaults();
        arguments();
        questionsChangeNothing();
        againstTrying();
        Check.close();
    }

    private static void would(CardLink x, int... want) {
        for (int what = 0; what < want.length; what++) {
            Check.due("would(" + what + ")", x.would(what), want[what]);
        }
    }

    private static void harm(CardLink x, int kind, int many, int first) {
        Check.due("harm(" + kind + ", 0)", x.harm(kind, 0), many);
        Check.due("harm(" + kind + ", 1)", x.harm(kind, 1), first);
    }

    /** The calls that README.md shows. */
    private static void readme() {
        CardLink link = new CardLink();
        link.feed(0x3B00000000000000L, 0);
        link.end(2);
        Check.due("reset()", link.reset(), 0);
        link.feed(0x0119000000000000L, 0);
        link.end(2);
        Check.due("message()", link.message(), 1);
        Check.due("would(0)", link.would(0), 2);
        Check.due("step(10)", link.step(10), 2);
        Check.due("got(0, NONE)", link.got(0, CardLink.NONE), 25);
        Check.due("fault(0, 3, 0)", link.fault(0, 3, 0), 1);
        link.feed(0x0600000000000000L, 0);
        link.end(1);
        Check.due("message()", link.message(), 1);
        Check.due("would(1)", link.would(1), 4);
        harm(link, 3, 0, -1);
        Check.due("step(60)", link.step(60), 4);
        Check.due("log(3, 3)", Check.log(link, 3, 3), 2);
        Check.due("byteOf(0, 3)", link.byteOf(0, 3), 6);
        Check.due("count(8)", link.count(8), 2);
    }

    private static void wouldBe() {
        CardLink x = Check.plainCard();
        would(x, -1, -1, -1, -1);
        Check.message(x, 2, 7, 2, 9);
        would(x, 2, 6, 8 + 5 + 5 + 5 + 5 + 5, 1, -1);
        Check.due("would(-1)", x.would(-1), -1);
        x.step(1);
        would(x, 2, 4, 20, 1);
        // The card's request again, and its answer, by the INF that it asked with.
        CardLink y = Check.plainCard();
        Check.message(y, 2, 7, 2, 9);
        y.step(1);
        y.fault(0, 3, 0);
        would(y, 2, 6, 20 + 5 + 5, 1);
        x.fault(0, 3, 0);
        would(x, 2, 6, 20 + 5 + 5, 1);
        x.step(60);
        would(x, -1, -1, -1, -1);
        // The latest message that came to the reader, though another thing is on its way.
        x.room(20);
        would(x, 2, 2, 10, 1);
        x = Check.plainCard();
        Check.message(x, 6);
        x.step(60);
        x.room(20);
        would(x, 2, 2, 10, 2);
        x = Check.plainCard();
        x.room(20);
        would(x, 2, 2, 10, -1);
        x = Check.plainCard();
        Check.message(x, 5, 2);
        would(x, 3, 7, 6 + 4 + 4 + 4 + 5 + 4 + 4, -1);
        x.fault(27, 3, 0);
        would(x, 3, 9, 31 + 8, -1);
        // The answer to the request that was sent again is broken: the third turn of tries ends it.
        x = Check.plainCard();
        Check.message(x, 5, 3);
        x.fault(31, 3, 0);
        would(x, 4, 8, 35, -1);
    }

    /** Two sides that only send R to each other: 400 turns, then it is on its way still. */
    private static void endless() {
        CardLink x = Check.plainCard();
        x.fault(1, 2, 32);
        x.fault(3, 2, 32);
        Check.message(x);
        would(x, 1, 800, 3200, -1);
        harm(x, 1, -1, -1);
        Check.due("step(60)", x.step(60), 120);
        would(x, 1, 800, 3200, -1);
        x.fault(0, 3, 0);
        would(x, 1, 800, 3200, -1);
        // A message that came before is none then: it is not done.
        x = Check.plainCard();
        Check.message(x, 6);
        x.step(60);
        Check.forge(x, 1, 3, 32);
        Check.message(x);
        would(x, 1, 800, 3200, -1);
    }

    private static void byHand() {
        // The card is silent for two turns, so the message and the answer have no try left.
        CardLink x = Check.plainCard();
        Check.message(x, 5, 1);
        would(x, 2, 4, 6 + 4 + 4 + 5, 1);
        for (int what : new int[] {2, -1, Integer.MAX_VALUE, Integer.MIN_VALUE}) {
            Check.due("harm(3, " + what + ")", x.harm(3, what), -1);
        }
        harm(x, 1, 0, -1);
        harm(x, 2, 11, 0);
        harm(x, 3, 11, 0);
        x.repeats(0);
        harm(x, 1, 11, 0);
        x.step(1);
        harm(x, 1, 5, 8);
        harm(x, 2, 5, 8);
        harm(x, 3, 5, 8);
        x.step(1);
        harm(x, 3, 5, 4);
        x.repeats(1);
        harm(x, 1, 0, -1);
        x.step(1);
        // The answer has come; nothing more is to be sent.
        would(x, 2, 0, 0, 1);
        harm(x, 3, 0, -1);
        for (int kind : new int[] {0, 4, -1, Integer.MAX_VALUE, Integer.MIN_VALUE}) {
            harm(x, kind, -1, -1);
        }
        // Done, but with another message: what the reader is told depends on a pair of turned letters.
        x = Check.plainCard();
        x.fault(3, 2, 1);
        x.fault(4, 2, 1);
        Check.message(x, 6);
        would(x, 2, 2, 11, 2);
        // Each letter of the first block by itself makes it broken: sent again, it comes as it is.
        harm(x, 3, 5, 0);
    }

    private static void inPlaceOfOneTold() {
        CardLink x = Check.plainCard();
        x.fault(0, 1, 0);
        Check.message(x, 5, 1);
        would(x, 2, 4, 20, 1);
        // Letter 0, spoilt as told, is one of those at which a lost one harms.
        harm(x, 3, 12, 0);
        harm(x, 1, 1, 1);
    }

    /** The CHECK is turned as told; with INF turned alike the message comes whole, as another one, and so does the answer. */
    private static void anotherMessage() {
        CardLink x = Check.plainCard();
        x.fault(5, 2, 1);
        Check.message(x, 8, 2);
        would(x, 2, 4, 6 + 4 + 6 + 6, 2);
        harm(x, 2, 2, 3);
        harm(x, 1, 0, -1);
        harm(x, 3, 0, -1);
        // By other bits than 1 no single one mends the CHECK.
        x = Check.plainCard();
        x.fault(5, 2, 2);
        Check.message(x, 8, 2);
        would(x, 2, 4, 6 + 4 + 6 + 6, 2);
        harm(x, 2, 0, -1);
        // An answer that only goes on longer is another one, too.
        x = Check.plainCard();
        x.fault(5, 2, 1);
        Check.message(x, 1, 8);
        would(x, 2, 4, 6 + 4 + 6 + 12, 8);
        harm(x, 2, 2, 3);
        // The answer alone comes as another one: of as many bytes.
        x = Check.plainCard();
        x.fault(11, 2, 1);
        Check.message(x, 8, 2);
        harm(x, 2, 2, 9);
    }

    /** Asked in the middle of what is going on, by an object that was asked nothing before. */
    private static void whatIsAskedAlready() {
        for (int turns = 1; turns <= 3; turns++) {
            CardLink x = Check.plainCard();
            Check.message(x, 2, 7, 2, 9);
            x.step(turns);
            would(x, 2, 6 - 2 * turns, turns == 3 ? 0 : 30 - 10 * turns, 1);
            harm(x, 3, 0, -1);
            x = Check.plainCard();
            x.room(7);
            x.step(1);
            would(x, 2, 0, 0, -1);
            harm(x, 3, 0, -1);
        }
        for (int turns = 4; turns <= 5; turns++) {
            CardLink x = Check.plainCard();
            Check.message(x, 5, 2);
            x.step(turns);
            would(x, 3, turns == 4 ? 2 : 0, turns == 4 ? 8 : 0, -1);
            harm(x, 3, -1, -1);
        }
    }

    private static void noMessageThen() {
        // Given up, dead: none, though one had come before.
        for (int second = 2; second <= 3; second++) {
            CardLink x = Check.plainCard();
            Check.message(x, 6);
            x.step(60);
            Check.message(x, 5, second);
            if (second == 3) {
                x.fault(31, 3, 0);
            }
            would(x, second + 1, second == 2 ? 7 : 8, second == 2 ? 31 : 35, -1);
            harm(x, 1, -1, -1);
            harm(x, 2, -1, -1);
            harm(x, 3, -1, -1);
        }
        // Done by an empty message is a message of no bytes, by a room none.
        CardLink x = Check.plainCard();
        Check.message(x, 4);
        would(x, 2, 4, 5 + 4 + 4 + 4, 0);
        x = Check.plainCard();
        x.room(254);
        would(x, 2, 2, 10, -1);
        harm(x, 3, 0, -1);
    }

    /** LETTERS sent again are among those of WOULD, and are letters that HARM tries. */
    private static void sentAgain() {
        CardLink x = Check.plainCard();
        Check.message(x, 6);
        would(x, 2, 2, 5 + 6, 2);
        x.fault(0, 1, 0);
        would(x, 2, 2, 5 + 1 + 6, 2);
        // Spoilt, then turned: the block is broken.
        x.fault(1, 2, 1);
        would(x, 2, 4, 5 + 1 + 4 + 5 + 6, 2);
        x = Check.plainCard();
        Check.message(x, 5, 1);
        x.fault(2, 1, 0);
        would(x, 2, 4, 20, 1);
        harm(x, 3, 12, 0);
        // The letter ahead of it, sent again as the one that is told, or the one that is sent again: once too often by REPEATS 1.
        harm(x, 1, 2, 1);
        x.repeats(2);
        harm(x, 1, 0, -1);
    }

    /** 24 FAULTS are told; a single one besides them is tried all the same. */
    private static void fullOfFaults() {
        CardLink x = Check.plainCard();
        for (int i = 0; i < 24; i++) {
            Check.due("fault", x.fault(950 + i, 3, 0), i + 1);
        }
        Check.message(x, 5, 1);
        would(x, 2, 4, 19, 1);
        harm(x, 1, 0, -1);
        harm(x, 2, 11, 0);
        harm(x, 3, 11, 0);
        Check.due("count(2)", x.count(2), 24);
    }

    private static void arguments() {
        CardLink x = Check.plainCard();
        Check.message(x, 5, 1);
        for (int kind = -2; kind <= 6; kind++) {
            for (int what = -2; what <= 4; what++) {
                int want = kind < 1 || kind > 3 || what < 0 || what > 1 ? -1 : kind == 1 ? -what : what == 0 ? 11 : 0;
                Check.due("harm(" + kind + ", " + what + ")", x.harm(kind, what), want);
            }
        }
        int[] want = {-1, -1, 2, 4, 19, 1, -1, -1};
        for (int what = -2; what <= 5; what++) {
            Check.due("would(" + what + ")", x.would(what), want[what + 2]);
        }
        Check.due("would(max)", x.would(Integer.MAX_VALUE), -1);
        Check.due("would(min)", x.would(Integer.MIN_VALUE), -1);
    }

    private static void notDone() {
        CardLink x = Check.plainCard();
        Check.message(x, 5, 2);
        for (int kind = 1; kind <= 3; kind++) {
            harm(x, kind, -1, -1);
        }
    }

    private static void questionsChangeNothing() {
        CardLink x = Check.plainCard();
        CardLink y = Check.plainCard();
        for (CardLink each : new CardLink[] {x, y}) {
            each.fault(3, 3, 0);
            each.fault(9, 1, 0);
            Check.message(each, 1, 40);
        }
        for (int turn = 0; turn < 8 && x.state() == 1; turn++) {
            for (int kind = 1; kind <= 3; kind++) {
                x.harm(kind, 0);
                x.would(kind);
            }
            Check.due("step(1)", x.step(1), y.step(1));
            for (int what = 0; what <= 10; what++) {
                Check.due("count(" + what + ")", x.count(what), y.count(what));
                Check.due("side(0, " + what + ")", x.side(0, what), y.side(0, what));
                Check.due("side(1, " + what + ")", x.side(1, what), y.side(1, what));
            }
        }
    }

    /** HARM by trying: a new object for each letter, its fault told by fault(). */
    private static void againstTrying() {
        int[][] messages = {{6, 1}, {1, 60}, {2, 9, 3, 4, 5}, {3, 4, 4}, {4, 4}, {5, 1, 9}, {8, 1, 2, 3, 4, 5, 6, 7, 8, 9}};
        for (int[] message : messages) {
            for (int told = 0; told < 60; told += 7) {
                CardLink x = prepared(message, told);
                if (x.would(0) != 2) {
                    continue;
                }
                for (int kind = 1; kind <= 3; kind++) {
                    int many = 0;
                    int first = -1;
                    for (int letter = 0; letter < x.would(2); letter++) {
                        CardLink y = prepared(message, told);
                        y.fault(letter, kind, kind == 2 ? 1 : 0);
                        if (endsOtherwise(y, prepared(message, told))) {
                            many++;
                            first = first < 0 ? letter : first;
                        }
                    }
                    harm(x, kind, many, first);
                }
            }
        }
    }

    private static CardLink prepared(int[] message, int told) {
        CardLink x = Check.cardOfRoom(3);
        x.fault(told, 3, 0);
        x.fault(told + 20, 3, 0);
        x.fault(told + 2, 1, 0);
        Check.message(x, message);
        return x;
    }

    private static boolean endsOtherwise(CardLink y, CardLink plain) {
        for (int i = 0; i < 7; i++) {
            y.step(60);
            plain.step(60);
        }
        boolean other = y.state() != 2;
        for (int i = -1; i < 60; i++) {
            other |= y.got(0, i) != plain.got(0, i);
        }
        return other;
    }
}
