/** Promises 7 to 14: messages, rooms, faults, repeats, turns, and what the sides hold. */
final class TurnsTest extends Check {
    private TurnsTest() {
    }

    public static void main(String[] args) {
        starting();
        chains();
        echoAndCounting();
        waits();
        cardRoom();
        abort();
        silence();
        twoBytes();
        readerRoom();
        spoilt();
        turned();
        lost();
        turnedToOthers();
        longerThanRoom();
        tries();
        resynchEmpties();
        abortEmpties();
        resetOnTheWay();
        dead();
        faultArguments();
        askingWrong();
        close();
    }

    private static void starting() {
        CardLink x = plainCard();
        state(x, 0);
        step(x, 1, -1);
        due("message of 61", message(x, new int[61]), -1);
        count(x, 10, 0);
        state(x, 0);
        due("room(0)", x.room(0), -1);
        due("room(255)", x.room(255), -1);
        due("message of 60, room 32", message(x, new int[60]), 2);
        state(x, 1);
        side(x, 0, 3, 60);
        side(x, 0, 4, 0);
        side(x, 0, 8, -1);
        side(x, 0, 6, -1);
        due("message on the way", message(x, 1), -1);
        count(x, 10, 0);
        side(x, 0, 3, 60);
        due("room on the way", x.room(9), -1);
        step(x, 0, -1);
        step(x, 61, -1);
        step(x, -5, -1);
        step(x, 60, 6);
        state(x, 2);
        got(x, 0, new int[60]);
        for (int[] pair : new int[][] {{0, 1}, {1, 1}, {7, 1}, {8, 2}, {14, 2}, {15, 3}, {60, 9}}) {
            CardLink y = cardOfRoom(7);
            due("message of " + pair[0] + ", room 7", message(y, new int[pair[0]]), pair[1]);
        }
    }

    private static void chains() {
        CardLink x = cardOfRoom(2);
        due("message of 5, room 2", message(x, 8, 1, 2, 3, 4), 3);
        step(x, 1, 2);
        side(x, 0, 8, 0);
        side(x, 0, 4, 0);
        side(x, 1, 5, 2);
        side(x, 1, 1, 1);
        step(x, 1, 2);
        side(x, 0, 0, 1);
        side(x, 0, 4, 2);
        side(x, 0, 8, 1);
        side(x, 1, 5, 4);
        step(x, 1, 2);
        sent(x, "r32 c144 r96 c128 r0 c0");
        side(x, 1, 5, 0);
        side(x, 0, 4, 4);
        side(x, 1, 8, 0);
        state(x, 1);
        step(x, 1, 0);
        state(x, 2);
        side(x, 0, 0, 1);
        side(x, 0, 1, 1);
        side(x, 0, 4, 5);
        side(x, 0, 8, -1);
        side(x, 0, 9, 3);
        side(x, 0, 10, 1);
        side(x, 1, 0, 0);
        side(x, 1, 1, 1);
        side(x, 1, 3, 5);
        side(x, 1, 4, 0);
        side(x, 1, 9, 3);
        side(x, 1, 10, 1);
        side(x, 0, 6, 0);
        got(x, 0, 8, 1, 2, 3, 4);
        got(x, 1, 8, 1, 2, 3, 4);
        count(x, 0, 6 + 4 + 6 + 4 + 5 + 9);
    }

    private static void echoAndCounting() {
        CardLink x = plainCard();
        x.room(10);
        step(x, 5, 2);
        message(x, 9, 25);
        step(x, 60, 6);
        sent(x, "r0 c32 r144 c96 r128 c0");
        got(x, 0, 0, 1, 2, 3, 4, 5, 6, 7, 8, 9, 10, 11, 12, 13, 14, 15, 16, 17, 18, 19, 20, 21, 22, 23, 24);
        side(x, 1, 3, 25);
        side(x, 1, 4, 20);
        // 61 modulo 61, and no second byte.
        message(x, 1, 61);
        step(x, 60, 2);
        got(x, 0);
        message(x, 0xf9);
        step(x, 60, 2);
        got(x, 0);
        got(x, 1, 0xf9);
        message(x, 1, 121);
        step(x, 60, 12);
        due("got(0, 59)", x.got(0, 59), 59);
        message(x);
        step(x, 60, 2);
        got(x, 0);
        got(x, 1);
    }

    private static void waits() {
        CardLink x = plainCard();
        message(x, 2, 7, 2, 9);
        step(x, 1, 2);
        side(x, 1, 7, 3);
        count(x, 7, 0);
        due("byteOf(0, 3)", x.byteOf(0, 3), 7);
        step(x, 1, 2);
        count(x, 7, 1);
        side(x, 1, 7, 3);
        step(x, 60, 2);
        sent(x, "r0 c195 r227 c195 r227 c0");
        due("byteOf(1, 3)", x.byteOf(1, 3), 7);
        count(x, 7, 2);
        side(x, 1, 7, -1);
        got(x, 0, 9);
        // None wanted: what is behind the third byte comes at once.
        message(x, 10, 7, 4, 9, 8);
        step(x, 60, 2);
        sent(x, "r64 c64");
        got(x, 0, 9, 8);
        // Without a second byte: once, by 1; without a third one: once.
        message(x, 2);
        step(x, 60, 4);
        due("byteOf(2, 3)", x.byteOf(2, 3), 1);
        got(x, 0);
        message(x, 2, 0);
        step(x, 60, 4);
        due("byteOf(2, 3)", x.byteOf(2, 3), 0);
        count(x, 7, 4);
        message(x, 2, 255, 7);
        step(x, 60, 8);
        count(x, 7, 7);
        count(x, 8, 5);
    }

    private static void cardRoom() {
        CardLink x = plainCard();
        message(x, 3, 5);
        step(x, 1, 2);
        side(x, 1, 7, 1);
        side(x, 1, 2, 32);
        step(x, 60, 2);
        sent(x, "r0 c193 r225 c0");
        side(x, 1, 2, 5);
        side(x, 0, 2, 32);
        due("answer(7) is the reset answer's", x.answer(7), 32);
        got(x, 0, 3);
        due("message of 11, room 5", message(x, 11, 254, 0, 0, 0, 0, 0, 0, 0, 0, 0), 3);
        step(x, 60, 8);
        side(x, 1, 2, 254);
        got(x, 0, 11);
        for (int[] m : new int[][] {{3}, {3, 0}, {3, 255}}) {
            message(x, m);
            step(x, 60, 4);
            side(x, 1, 2, 32);
            x.room(9);
            step(x, 2, 2);
            side(x, 1, 2, 32);
        }
        message(x, 3, 1);
        step(x, 60, 4);
        side(x, 1, 2, 1);
    }

    private static void abort() {
        CardLink x = plainCard();
        message(x, 6);
        step(x, 60, 2);
        message(x, 4, 1, 1);
        step(x, 1, 2);
        side(x, 1, 7, 2);
        side(x, 0, 3, 3);
        step(x, 1, 2);
        sent(x, "r64 c194 r226 c128");
        side(x, 0, 3, 0);
        side(x, 0, 4, 0);
        side(x, 0, 0, 0);
        side(x, 0, 8, -1);
        side(x, 1, 7, -1);
        got(x, 0, 6, 1);
        step(x, 1, 0);
        state(x, 2);
        got(x, 0);
        got(x, 1, 4, 1, 1);
        side(x, 0, 10, 2);
        side(x, 1, 10, 2);
        count(x, 8, 2);
        // It is told since the latest message() alone: the next R is an ordinary one.
        x.fault(1, 2, 64);
        x.fault(3, 2, 64);
        message(x);
        step(x, 60, 4);
        sent(x, "r0 c130 r0 c64");
        got(x, 0);
        side(x, 0, 10, 3);
    }

    private static void silence() {
        CardLink x = plainCard();
        message(x, 5);
        step(x, 1, 1);
        count(x, 3, 0);
        step(x, 1, 2);
        count(x, 3, 1);
        step(x, 1, 0);
        sent(x, "r0 r130 c0");
        count(x, 3, 0);
        state(x, 2);
        got(x, 0, 5);
        x = plainCard();
        message(x, 13, 5);
        step(x, 60, 4);
        sent(x, "r0 r130 r130 c0");
        got(x, 0, 13);
        // One turn more: the third try is a resynchronising one, and the card does not look at it.
        x = plainCard();
        message(x, 5, 2);
        step(x, 3, 3);
        count(x, 3, 2);
        side(x, 0, 7, -1);
        step(x, 1, 2);
        count(x, 3, 0);
        side(x, 0, 7, 0);
        side(x, 0, 3, 2);
        sent(x, "r0 r130 r130 r192 c0");
        step(x, 1, 2);
        count(x, 3, 1);
        state(x, 1);
        step(x, 1, 0);
        sent(x, "r192 c0 r192 c224");
        state(x, 3);
        count(x, 9, 1);
        count(x, 8, 0);
        side(x, 0, 7, -1);
        side(x, 0, 3, 0);
        side(x, 1, 3, 0);
        side(x, 1, 8, -1);
        side(x, 0, 0, 0);
        side(x, 1, 1, 0);
        got(x, 1, 5, 2);
        due("got(0, -1): none came", x.got(0, -1), -2);
        // Given up: another message may be sent.
        message(x, 6);
        step(x, 60, 2);
        state(x, 2);
        got(x, 0, 6, 1);
        x = plainCard();
        message(x, 5, 3);
        step(x, 60, 8);
        sent(x, "r0 r130 r130 r192 r192 c0 r192 c224");
        state(x, 3);
    }

    private static void twoBytes() {
        CardLink x = plainCard();
        message(x, 6, 1, 1, 1);
        step(x, 60, 2);
        got(x, 0, 6, 4);
        message(x, 255);
        side(x, 0, 3, 1);
        side(x, 0, 4, 0);
        step(x, 60, 2);
        got(x, 0, 255, 1);
        side(x, 1, 3, 2);
    }

    private static void readerRoom() {
        CardLink x = plainCard();
        due("room(254)", x.room(254), 1);
        state(x, 1);
        side(x, 0, 2, 32);
        side(x, 0, 7, -1);
        step(x, 1, 2);
        side(x, 0, 2, 254);
        side(x, 0, 7, 1);
        step(x, 1, 0);
        sent(x, "r193 c225");
        state(x, 2);
        side(x, 0, 7, -1);
        side(x, 0, 10, 0);
        due("got(0, -1)", x.got(0, -1), -2);
        // The response by another room (letters 5 to 9) is none to this request.
        x.fault(5 + 3, 2, 2);
        x.fault(5 + 4, 2, 2);
        x.room(1);
        step(x, 1, 2);
        step(x, 1, 2);
        count(x, 3, 1);
        step(x, 1, 0);
        sent(x, "r193 c225 r193 c225");
        side(x, 0, 2, 1);
        count(x, 8, 2);
        // A broken request is asked again, and no room is taken of it.
        x.fault(1, 3, 0);
        x.room(77);
        step(x, 1, 2);
        side(x, 0, 2, 1);
        step(x, 60, 2);
        sent(x, "r193/2 c130 r193 c225");
        side(x, 0, 2, 77);
    }

    private static void spoilt() {
        CardLink x = plainCard();
        x.fault(0, 1, 0);
        x.fault(3, 1, 0);
        message(x, 6);
        step(x, 60, 2);
        sent(x, "r0 c0");
        due("log(1, 4)", log(x, 1, 4), 7);
        count(x, 0, 7 + 6);
        count(x, 1, 2);
        // Spoilt once more than REPEATS: it comes so.
        for (int repeats = 0; repeats <= 3; repeats++) {
            x = plainCard();
            x.repeats(repeats);
            for (int i = 0; i <= repeats; i++) {
                x.fault(2 + i, 1, 0);
            }
            message(x, 6);
            step(x, 1, 2);
            sent(x, "r0/1 c129");
            due("log(1, 4)", log(x, 1, 4), 5 + repeats);
            count(x, 1, repeats);
            step(x, 60, 2);
            sent(x, "r0/1 c129 r0 c0");
            got(x, 1, 6);
        }
        // What is sent again may be lost or turned.
        x = plainCard();
        x.fault(1, 1, 0);
        x.fault(2, 3, 0);
        message(x, 6);
        step(x, 1, 2);
        sent(x, "r0/2 c130");
        x = plainCard();
        x.fault(1, 1, 0);
        x.fault(2, 2, 8);
        message(x, 6);
        step(x, 1, 2);
        sent(x, "r0/1 c129");
        count(x, 2, 0);
    }

    private static void turned() {
        // NAD, KIND, INF, CHECK: the check is another one; LEN: not as many bytes as it tells.
        int[] came = {1, 1, 2, 1, 1};
        for (int letter = 0; letter < 5; letter++) {
            CardLink x = plainCard();
            x.fault(letter, 2, 255);
            message(x, 6);
            step(x, 1, 2);
            sent(x, "r0/" + came[letter] + " c" + (128 + came[letter]));
            step(x, 60, 2);
            got(x, 1, 6);
        }
        // A check that is right again, but NAD is not 0.
        CardLink x = plainCard();
        x.fault(0, 2, 4);
        x.fault(4, 2, 4);
        message(x, 6);
        step(x, 1, 2);
        sent(x, "r0/2 c130");
        // Another INF comes whole.
        x = plainCard();
        x.fault(3, 2, 1);
        x.fault(4, 2, 1);
        message(x, 6);
        step(x, 60, 2);
        got(x, 1, 7);
        got(x, 0, 7, 1);
        // LEN counts more than parity and check, parity more than the kind.
        x = plainCard();
        x.repeats(0);
        x.fault(0, 1, 0);
        x.fault(2, 2, 3);
        message(x, 6);
        step(x, 1, 2);
        sent(x, "r0/2 c130");
        x = plainCard();
        x.repeats(0);
        x.fault(0, 1, 0);
        x.fault(1, 2, 1);
        x.fault(4, 2, 1);
        message(x, 6);
        step(x, 1, 2);
        sent(x, "r0/1 c129");
    }

    private static void lost() {
        CardLink x = plainCard();
        x.fault(3, 3, 0);
        message(x);
        step(x, 60, 4);
        sent(x, "r0/2 c130 r0 c0");
        // All letters lost: the card got nothing and sends nothing.
        x = plainCard();
        for (int i = 0; i < 4; i++) {
            x.fault(i, 3, 0);
        }
        message(x);
        step(x, 1, 1);
        sent(x, "r0/3");
        step(x, 1, 2);
        step(x, 1, 2);
        count(x, 3, 2);
        step(x, 1, 0);
        sent(x, "r0/3 r130 c128 r0 c0");
        state(x, 2);
        // The card's block lost: R with the reader's WANTED, and it is sent again.
        x = plainCard();
        for (int i = 4; i < 8; i++) {
            x.fault(i, 3, 0);
        }
        message(x);
        step(x, 60, 4);
        sent(x, "r0 c0/3 r130 c0");
        count(x, 8, 1);
        // The request of the card lost: it asks again when R comes.
        x = plainCard();
        x.fault(6, 3, 0);
        message(x, 4);
        step(x, 60, 6);
        sent(x, "r0 c194/2 r130 c194 r226 c144");
    }

    private static void turnedToOthers() {
        // An empty I block that comes as another kind: the card refuses I of the other number, ABORT, any response.
        for (int kind : new int[] {64, 96, 194, 224, 226}) {
            CardLink x = emptyTurnedTo(kind);
            step(x, 60, 4);
            sent(x, "r0 c130 r0 c0");
        }
        // Kinds that there are not, or not with LEN 0.
        for (int kind : new int[] {1, 16, 65, 131, 132, 160, 136, 193, 195, 196, 200, 225, 228, 255}) {
            CardLink x = emptyTurnedTo(kind);
            step(x, 60, 4);
            sent(x, "r0/2 c130 r0 c0");
        }
        // R: the card has nothing pending.
        for (int kind : new int[] {128, 129, 130, 144, 145, 146}) {
            CardLink x = emptyTurnedTo(kind);
            step(x, 60, 4);
            sent(x, "r0 c128 r0 c0");
        }
        // More: the rest that the card waits for never comes, and so both wait.
        CardLink x = emptyTurnedTo(32);
        step(x, 4, 8);
        sent(x, "r0 c144 r128 c144 r128 c144 r128 c144");
        count(x, 3, 0);
        side(x, 0, 8, -1);
        due("would(0)", x.would(0), 1);
        due("would(1)", x.would(1), 800);
        // RESYNCH to the card: the reader asked for none.
        x = emptyTurnedTo(192);
        step(x, 60, 6);
        sent(x, "r0 c224 r130 c128 r0 c0");
        // One byte of INF: ROOM of the reader is taken, WAIT to the card is refused, 0 and 255 are no rooms.
        x = oneByteTurnedTo(193, 6);
        step(x, 1, 2);
        side(x, 0, 2, 6);
        step(x, 60, 4);
        sent(x, "r0 c225 r130 c128 r0 c0");
        x = oneByteTurnedTo(195, 5);
        step(x, 1, 2);
        sent(x, "r0 c130");
        x = oneByteTurnedTo(193, 0);
        step(x, 1, 2);
        sent(x, "r0/2 c130");
        x = oneByteTurnedTo(225, 255);
        step(x, 1, 2);
        sent(x, "r0/2 c130");
        x = oneByteTurnedTo(128, 5);
        step(x, 1, 2);
        sent(x, "r0/2 c130");
        x = oneByteTurnedTo(194, 5);
        step(x, 1, 2);
        sent(x, "r0/2 c130");
        answersTurned();
    }

    /** What the card sends, turned on its way to the reader: the empty echo is letters 4 to 7. */
    private static void answersTurned() {
        for (int kind : new int[] {64, 192, 224, 226}) {
            CardLink x = echoTurnedBy(kind);
            step(x, 60, 4);
            sent(x, "r0 c0 r130 c0");
            state(x, 2);
            x = echoTurnedBy(kind);
            step(x, 2, 4);
            count(x, 3, 1);
        }
        // ABORT that the card did not ask for: its next R ends the message.
        CardLink x = echoTurnedBy(194);
        step(x, 2, 4);
        sent(x, "r0 c0 r226 c146");
        side(x, 0, 0, 1);
        step(x, 1, 0);
        state(x, 2);
        side(x, 0, 10, 1);
        // R by the other number: the message is through, then R from here on.
        x = echoTurnedBy(144);
        step(x, 2, 4);
        sent(x, "r0 c0 r128 c0");
        count(x, 3, 0);
        step(x, 1, 0);
        state(x, 2);
        x = echoTurnedBy(128);
        step(x, 2, 4);
        sent(x, "r0 c0 r0 c146");
        count(x, 3, 1);
    }

    private static CardLink echoTurnedBy(int bits) {
        CardLink x = plainCard();
        x.fault(5, 2, bits);
        x.fault(7, 2, bits);
        message(x);
        return x;
    }

    private static CardLink emptyTurnedTo(int kind) {
        CardLink x = plainCard();
        x.fault(1, 2, kind);
        x.fault(3, 2, kind);
        message(x);
        return x;
    }

    private static CardLink oneByteTurnedTo(int kind, int inf) {
        CardLink x = plainCard();
        x.fault(1, 2, kind);
        x.fault(4, 2, kind);
        message(x, inf);
        return x;
    }

    private static void longerThanRoom() {
        CardLink x = plainCard();
        message(x, 1, 25);
        step(x, 60, 2);
        x.room(10);
        step(x, 60, 2);
        // The next I block comes as R by the number of the card's pending block.
        x.fault(1, 2, 64 ^ 128);
        x.fault(3, 2, 64 ^ 128);
        message(x);
        step(x, 60, 6);
        sent(x, "r64 c0/2 r146 c144 r64 c64");
        got(x, 0);
        state(x, 2);
    }

    private static void tries() {
        // Three blocks of the reader lost in part, one behind another: the third try resynchronises.
        CardLink x = plainCard();
        x.fault(0, 3, 0);
        x.fault(9, 3, 0);
        x.fault(18, 3, 0);
        message(x, 6);
        step(x, 1, 2);
        count(x, 3, 0);
        step(x, 1, 2);
        count(x, 3, 1);
        step(x, 1, 2);
        count(x, 3, 2);
        step(x, 1, 2);
        count(x, 3, 0);
        sent(x, "r0/2 c130 r0/2 c130 r0/2 c130 r192 c224");
        step(x, 1, 0);
        state(x, 3);
        // A good turn between them begins anew.
        x = cardOfRoom(1);
        x.fault(0, 3, 0);
        x.fault(9, 3, 0);
        x.fault(27, 3, 0);
        message(x, 6, 1, 1);
        step(x, 60, 12);
        sent(x, "r32/2 c130 r32/2 c130 r32 c144 r96/2 c146 r96 c128 r0 c0");
        state(x, 2);
        // The room that was asked is asked no more behind RESYNCH.
        x = plainCard();
        x.fault(0, 3, 0);
        x.fault(9, 3, 0);
        x.fault(18, 3, 0);
        x.room(9);
        step(x, 60, 8);
        sent(x, "r193/2 c130 r193/2 c130 r193/2 c130 r192 c224");
        state(x, 3);
        count(x, 9, 1);
        side(x, 0, 2, 32);
    }

    private static void resynchEmpties() {
        // The card has a byte of a chain when the next block fails for the third time.
        CardLink x = cardOfRoom(1);
        x.fault(9, 3, 0);
        x.fault(18, 3, 0);
        x.fault(27, 3, 0);
        message(x, 6, 1, 1);
        step(x, 4, 8);
        side(x, 1, 5, 1);
        side(x, 1, 1, 1);
        side(x, 0, 4, 1);
        step(x, 1, 2);
        sent(x, "r32 c144 r96/2 c146 r96/2 c146 r96/2 c146 r192 c224");
        side(x, 1, 5, 0);
        side(x, 1, 1, 0);
        side(x, 0, 8, 1);
        step(x, 1, 0);
        state(x, 3);
        side(x, 0, 3, 0);
        side(x, 0, 4, 0);
        side(x, 0, 8, -1);
        side(x, 0, 0, 0);
        // The reader has two bytes of the answer's chain.
        x = plainCard();
        x.room(2);
        step(x, 2, 2);
        x.fault(16, 3, 0);
        x.fault(26, 3, 0);
        x.fault(36, 3, 0);
        message(x, 1, 4);
        step(x, 5, 10);
        sent(x, "r0 c32 r144 c64/2 r146 c64/2 r146 c64/2 r192 c224");
        side(x, 0, 5, 2);
        side(x, 0, 1, 1);
        side(x, 0, 0, 1);
        side(x, 1, 3, 0);
        side(x, 1, 4, 0);
        step(x, 1, 0);
        state(x, 3);
        side(x, 0, 5, 0);
        side(x, 0, 1, 0);
        side(x, 0, 0, 0);
        side(x, 0, 2, 2);
        // The card asks for WAIT and is not heard: behind RESYNCH it asks no more.
        x = plainCard();
        x.fault(7, 3, 0);
        x.fault(16, 3, 0);
        x.fault(25, 3, 0);
        message(x, 2, 7, 1);
        step(x, 3, 6);
        side(x, 1, 7, 3);
        step(x, 60, 2);
        sent(x, "r0 c195/2 r130 c195/2 r130 c195/2 r192 c224");
        side(x, 1, 7, -1);
        count(x, 7, 0);
        state(x, 3);
        message(x, 6);
        step(x, 60, 2);
        sent(x, "r0 c0");
    }

    /** The reader has two bytes of an answer when R of the card comes as ABORT. */
    private static void abortEmpties() {
        CardLink x = plainCard();
        x.room(2);
        step(x, 2, 2);
        x.fault(12, 3, 0);
        x.fault(17, 2, 146 ^ 194);
        x.fault(19, 2, 146 ^ 194);
        message(x, 1, 4);
        step(x, 2, 4);
        side(x, 0, 5, 2);
        side(x, 0, 3, 2);
        step(x, 1, 2);
        sent(x, "r0 c32 r144/2 c146 r226 c146");
        side(x, 0, 5, 0);
        side(x, 0, 3, 0);
        side(x, 0, 4, 0);
        step(x, 1, 0);
        state(x, 2);
        got(x, 0);
    }

    private static void resetOnTheWay() {
        int[][] messages = {{5, 3}, {2, 7, 3}, {4}, {3, 9}};
        for (int[] m : messages) {
            CardLink x = plainCard();
            x.fault(900, 3, 0);
            message(x, m);
            x.step(3);
            due("reset()", reset(x, 0x3b, 0), 0);
            for (int what : new int[] {0, 1, 2, 3, 4, 5, 7, 8, 9}) {
                count(x, what, 0);
            }
            step(x, 1, -1);
            message(x, 6);
            step(x, 60, 2);
            sent(x, "r0 c0");
            side(x, 1, 2, 32);
        }
        // Given up twice, then reset.
        CardLink x = plainCard();
        for (int i = 1; i <= 2; i++) {
            message(x, 5, 2);
            step(x, 60, 7);
            count(x, 9, i);
        }
        reset(x, 0x3b, 0);
        count(x, 9, 0);
    }

    private static void dead() {
        CardLink x = plainCard();
        message(x, 5, 3);
        x.fault(6 + 4 + 4 + 4 + 4 + 5 + 4, 3, 0);
        step(x, 60, 8);
        sent(x, "r0 r130 r130 r192 r192 c0 r192 c224/2");
        state(x, 4);
        count(x, 3, 0);
        count(x, 8, 0);
        count(x, 9, 0);
        side(x, 0, 7, 0);
        side(x, 0, 3, 2);
        due("message() of the dead", message(x, 1), -1);
        count(x, 10, 0);
        due("room(5) of the dead", x.room(5), -1);
        step(x, 1, -1);
        due("would(0) of the dead", x.would(0), -1);
        due("fault of the dead", x.fault(0, 1, 0), 1);
        due("reset()", reset(x, 0x3b, 0), 0);
        state(x, 0);
        due("message()", message(x, 1), 1);
    }

    private static void faultArguments() {
        CardLink x = plainCard();
        int[][] wrong = {{-1, 1, 0}, {1000, 1, 0}, {0, 0, 0}, {0, 4, 0}, {0, -1, 0}, {0, 1, 1}, {0, 3, 255}, {0, 1, -1},
            {0, 2, 0}, {0, 2, 256}, {0, 2, -1}};
        for (int[] w : wrong) {
            due("fault(" + w[0] + ", " + w[1] + ", " + w[2] + ")", x.fault(w[0], w[1], w[2]), -1);
        }
        count(x, 2, 0);
        due("fault(999, 2, 255)", x.fault(999, 2, 255), 1);
        due("fault(0, 2, 1)", x.fault(0, 2, 1), 2);
        due("fault(0, 1, 0) in its place", x.fault(0, 1, 0), 2);
        for (int i = 2; i < 24; i++) {
            due("fault " + i, x.fault(1000 - 40 * i, 3, 0), i + 1);
        }
        due("fault, 24 there are", x.fault(5, 3, 0), -1);
        count(x, 2, 24);
        // One comes and is there no more; letters count on from the next one.
        message(x);
        step(x, 60, 2);
        count(x, 2, 23);
        count(x, 0, 9);
        due("fault(0, 3, 0)", x.fault(0, 3, 0), 24);
        message(x);
        step(x, 1, 2);
        sent(x, "r64/2 c146");
        due("repeats(-1)", x.repeats(-1), -1);
        due("repeats(4)", x.repeats(4), -1);
        due("repeats(2)", x.repeats(2), 1);
        count(x, 6, 2);
    }

    private static void askingWrong() {
        CardLink x = plainCard();
        message(x, 6);
        step(x, 60, 2);
        for (int what : new int[] {-1, 11, Integer.MAX_VALUE, Integer.MIN_VALUE}) {
            side(x, 0, what, -2);
            side(x, 1, what, -2);
        }
        for (int side : new int[] {-1, 2, Integer.MAX_VALUE, Integer.MIN_VALUE}) {
            side(x, side, 0, -2);
            due("got(" + side + ", -1)", x.got(side, -1), -2);
        }
        due("got(0, max)", x.got(0, Integer.MAX_VALUE), -2);
        due("got(0, min)", x.got(0, Integer.MIN_VALUE), -2);
    }
}
