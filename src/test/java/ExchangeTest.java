/** "Terms" 3 at its edges: what the card does by each byte, what is asked, TRIES, and what (a) to (f) take and refuse. */
final class ExchangeTest extends Check {
    private ExchangeTest() {
    }

    public static void main(String[] args) {
        everyFirstByte();
        everyLength();
        everySecondByte();
        everyThirdByte();
        behindTheThird();
        everySilence();
        everyRoom();
        waitAsked();
        roomAsked();
        abortAsked();
        readersRoomAsked();
        resynchAsked();
        toldAbort();
        pendingWithMore();
        threeTries();
        triesBegunAnew();
        sixtyTurns();
        starts();
        close();
    }

    /** All modulo 8, where the message is of one byte: no second one, no third one. */
    private static void everyFirstByte() {
        String[] lines = {"r0 c0", "r0 c0", "r0 c195 r227 c0", "r0 c193 r225 c0", "r0 c194 r226 c144", "r0 r130 c0", "r0 c0", "r0 c0"};
        for (int first = 0; first < 256; first++) {
            CardLink x = plainCard();
            due("message()", message(x, first), 1);
            String line = lines[first % 8];
            step(x, 60, line.split(" ").length);
            sent(x, line);
            state(x, 2);
            got(x, 1, first);
            switch (first % 8) {
                case 0: case 3: case 5:
                    got(x, 0, first);
                    break;
                case 6: case 7:
                    got(x, 0, first, 1);
                    break;
                default:
                    got(x, 0);
            }
            due("byteOf(2, 3)", x.byteOf(2, 3), first % 8 == 2 ? 1 : first % 8 == 3 ? 32 : x.byteOf(2, 3));
            count(x, 7, first % 8 == 2 ? 1 : 0);
            side(x, 0, 10, 1);
            side(x, 1, 10, 1);
        }
        // Without a first byte: modulo 8 it is 0, OUT the same.
        CardLink x = plainCard();
        due("message() of none", message(x), 1);
        step(x, 60, 2);
        got(x, 0);
        got(x, 1);
        side(x, 1, 3, 0);
    }

    private static void everyLength() {
        for (int n = 1; n <= 60; n++) {
            for (int first : new int[] {8, 6, 7, 3, 5}) {
                CardLink x = plainCard();
                int[] m = new int[n];
                m[0] = first;
                for (int i = 1; i < n; i++) {
                    m[i] = 4 * i;
                }
                message(x, m);
                for (int i = 0; i < 7; i++) {
                    x.step(1);
                }
                state(x, 2);
                got(x, 1, m);
                if (first == 8) {
                    got(x, 0, m);
                } else if (first == 3 || first == 5) {
                    got(x, 0, first);
                } else {
                    got(x, 0, first, n);
                }
                side(x, 1, 3, x.got(0, -1));
            }
        }
    }

    private static void everySecondByte() {
        for (int second = 0; second < 256; second++) {
            CardLink x = plainCard();
            message(x, 1, second);
            step(x, 60, second % 61 > 32 ? 4 : 2);
            int[] counting = new int[second % 61];
            for (int i = 0; i < counting.length; i++) {
                counting[i] = i;
            }
            got(x, 0, counting);
            side(x, 1, 3, counting.length);
            x = plainCard();
            message(x, 2, second);
            step(x, 60, 4);
            sent(x, "r0 c195 r227 c0");
            due("INF asked", x.byteOf(2, 3), second);
            due("INF of the response", x.byteOf(1, 3), second);
            x = plainCard();
            message(x, 3, second);
            step(x, 60, 4);
            sent(x, "r0 c193 r225 c0");
            int room = second == 0 || second == 255 ? 32 : second;
            due("ROOM asked", x.byteOf(2, 3), room);
            due("ROOM of the response", x.byteOf(1, 3), room);
            side(x, 1, 2, room);
            side(x, 0, 2, 32);
            got(x, 0, 3);
        }
    }

    private static void everyThirdByte() {
        for (int third = 0; third < 256; third++) {
            CardLink x = plainCard();
            message(x, 2, 9, third, 77);
            int waits = third % 4;
            step(x, 60, 2 + 2 * waits);
            count(x, 7, waits);
            got(x, 0, 77);
            for (int i = 0; i < waits; i++) {
                due("KIND asked", log(x, 2 + 2 * i, 1), 195);
                due("INF asked", x.byteOf(2 + 2 * i, 3), 9);
            }
        }
    }

    private static void behindTheThird() {
        for (int n = 1; n <= 60; n++) {
            for (int third = 0; third < 4; third++) {
                int[] m = new int[n];
                for (int i = 0; i < n; i++) {
                    m[i] = i == 0 ? 2 : i == 2 ? third : 90 + i;
                }
                CardLink x = plainCard();
                message(x, m);
                x.step(60);
                state(x, 2);
                count(x, 7, n < 3 ? 1 : third);
                got(x, 0, n > 3 ? java.util.Arrays.copyOfRange(m, 3, n) : new int[0]);
            }
        }
    }

    private static void everySilence() {
        String[] lines = {"r0 r130 c0", "r0 r130 r130 c0", "r0 r130 r130 r192 c0 r192 c224", "r0 r130 r130 r192 r192 c0 r192 c224"};
        for (int second = 0; second < 256; second++) {
            CardLink x = plainCard();
            message(x, 5, second);
            String line = lines[second % 4];
            step(x, 60, line.split(" ").length);
            sent(x, line);
            state(x, second % 4 < 2 ? 2 : 3);
            due("got(0, 0)", x.got(0, 0), second % 4 < 2 ? 5 : -2);
        }
        // In the turn in which it sends OUT it does not look either: nothing came, and it sends.
        CardLink x = plainCard();
        for (int i = 0; i < 4; i++) {
            x.fault(6 + i, 3, 0);
        }
        message(x, 5, 0);
        step(x, 2, 3);
        sent(x, "r0 r130/3 c0");
        // In a turn of silence it does not look at a RESYNCH that comes, but in the log it came whole.
        x = plainCard();
        message(x, 5, 3);
        step(x, 4, 4);
        sent(x, "r0 r130 r130 r192");
        side(x, 1, 1, 1);
    }

    private static void everyRoom() {
        for (int n = -2; n <= 258; n++) {
            CardLink x = plainCard();
            boolean good = n >= 1 && n <= 254;
            due("room(" + n + ")", x.room(n), good ? 1 : -1);
            state(x, good ? 1 : 0);
            step(x, 1, good ? 2 : -1);
            if (good) {
                sent(x, "r193 c225");
                due("INF asked", x.byteOf(1, 3), n);
                due("INF of the response", x.byteOf(0, 3), n);
            }
            side(x, 0, 2, good ? n : 32);
            side(x, 1, 2, 32);
            step(x, 1, good ? 0 : -1);
            state(x, good ? 2 : 0);
        }
        CardLink x = plainCard();
        for (int n : new int[] {Integer.MIN_VALUE, Integer.MAX_VALUE, 256 + 5}) {
            due("room(" + n + ")", x.room(n), -1);
        }
    }

    /** The response to WAIT, letters 13 to 17, comes as something else: the same request again. */
    private static void waitAsked() {
        for (int bits = 1; bits < 256; bits++) {
            for (int letter : new int[] {14, 16}) {
                CardLink x = plainCard();
                forge(x, letter, 17, bits);
                message(x, 2, 7, 2, 9);
                step(x, 2, 4);
                due("KIND again", log(x, 0, 1), 195);
                due("INF again", x.byteOf(0, 3), 7);
                due("how often", log(x, 0, 5), 2);
                side(x, 1, 7, 3);
                count(x, 7, 0);
                step(x, 60, 4);
                count(x, 7, 2);
                got(x, 0, 9);
            }
        }
        CardLink x = plainCard();
        x.fault(13, 3, 0);
        message(x, 2, 7, 2, 9);
        step(x, 60, 8);
        sent(x, "r0 c195 r227/2 c195 r227 c195 r227 c0");
        // Nothing of it comes: the card sends nothing, and asks still.
        x = plainCard();
        for (int i = 13; i < 18; i++) {
            x.fault(i, 3, 0);
        }
        message(x, 2, 7, 2, 9);
        step(x, 2, 3);
        side(x, 1, 7, 3);
        step(x, 60, 6);
        sent(x, "r0 c195 r227/3 r130 c195 r227 c195 r227 c0");
        count(x, 7, 2);
    }

    /** The same of ROOM, letters 11 to 15: one of the reader's own is not taken either. */
    private static void roomAsked() {
        for (int bits = 1; bits < 256; bits++) {
            for (int letter : new int[] {12, 14}) {
                CardLink x = plainCard();
                forge(x, letter, 15, bits);
                message(x, 3, 5);
                step(x, 2, 4);
                due("KIND again", log(x, 0, 1), 193);
                due("INF again", x.byteOf(0, 3), 5);
                side(x, 1, 7, 1);
                side(x, 0, 2, 32);
                side(x, 1, 2, 5);
                step(x, 60, 2);
                got(x, 0, 3);
            }
        }
    }

    /** The same of ABORT, letters 9 to 12, but for RESYNCH. */
    private static void abortAsked() {
        for (int bits = 1; bits < 256; bits++) {
            CardLink x = plainCard();
            forge(x, 10, 12, bits);
            message(x, 4);
            step(x, 2, 4);
            if ((226 ^ bits) == 192) {
                sent(x, "r0 c194 r226 c224");
                side(x, 1, 7, -1);
                side(x, 1, 1, 0);
                continue;
            }
            due("KIND again", log(x, 0, 1), 194);
            side(x, 1, 7, 2);
            // Told twice, the reader's I block is through but once.
            step(x, 60, 2);
            sent(x, "r226 c144");
            side(x, 0, 0, 1);
            got(x, 0);
            side(x, 0, 10, 1);
            count(x, 8, 1);
        }
    }

    /** The response to the reader's ROOM, letters 5 to 9. */
    private static void readersRoomAsked() {
        for (int bits = 1; bits < 256; bits++) {
            for (int letter : new int[] {6, 8}) {
                CardLink x = plainCard();
                forge(x, letter, 9, bits);
                x.room(7);
                step(x, 2, 4);
                sent(x, log(x, 2, 3) == 2 ? "r193 c225/2 r193 c225" : "r193 c225 r193 c225");
                count(x, 3, 1);
                side(x, 0, 7, 1);
                due("INF again", x.byteOf(1, 3), 7);
                step(x, 1, 0);
                count(x, 3, 0);
                state(x, 2);
                side(x, 0, 7, -1);
            }
        }
        // Nothing of the request came: it is asked again for what did not come.
        CardLink x = plainCard();
        for (int i = 0; i < 5; i++) {
            x.fault(i, 3, 0);
        }
        x.room(7);
        step(x, 1, 1);
        side(x, 0, 2, 32);
        step(x, 60, 2);
        sent(x, "r193/3 r193 c225");
        side(x, 0, 2, 7);
    }

    /** The response to RESYNCH, letters 27 to 30: any other block brings the request again. */
    private static void resynchAsked() {
        for (int bits = 1; bits < 256; bits++) {
            CardLink x = plainCard();
            forge(x, 28, 30, bits);
            message(x, 5, 2);
            step(x, 5, 7);
            count(x, 3, 1);
            step(x, 1, 2);
            due("KIND again", log(x, 1, 1), 192);
            count(x, 3, 2);
            side(x, 0, 7, 0);
            side(x, 0, 3, 2);
            step(x, 1, 0);
            state(x, 3);
            count(x, 3, 0);
            side(x, 0, 3, 0);
        }
        // The third one in which it would be asked again: dead, and nothing is sent; then no block comes any more.
        CardLink x = plainCard();
        forge(x, 28, 30, 32);
        forge(x, 36, 38, 32);
        message(x, 5, 2);
        step(x, 6, 9);
        count(x, 3, 2);
        step(x, 1, 0);
        state(x, 4);
        count(x, 3, 0);
        count(x, 8, 0);
        count(x, 9, 0);
        side(x, 0, 7, 0);
        side(x, 0, 9, 6);
    }

    /** Behind ABORT any R ends it by an empty message; what is broken does not. */
    private static void toldAbort() {
        for (int kind : new int[] {128, 129, 130, 144, 145, 146}) {
            CardLink x = plainCard();
            if (kind != 144) {
                forge(x, 14, 16, 144 ^ kind);
            }
            message(x, 4);
            step(x, 2, 4);
            state(x, 1);
            due("got(0, -1): none came", x.got(0, -1), -2);
            step(x, 1, 0);
            state(x, 2);
            got(x, 0);
            side(x, 0, 10, 1);
        }
        CardLink x = plainCard();
        x.fault(13, 3, 0);
        message(x, 4);
        step(x, 3, 6);
        state(x, 1);
        sent(x, "r0 c194 r226 c144/2 r130 c144");
        step(x, 1, 0);
        got(x, 0);
        // Another S is refused as ever.
        x = plainCard();
        forge(x, 14, 16, 144 ^ 226);
        message(x, 4);
        step(x, 3, 6);
        sent(x, "r0 c194 r226 c144 r130 c144");
        count(x, 3, 1);
    }

    /** An I block that would be the wanted one is refused while MORE is pending. */
    private static void pendingWithMore() {
        CardLink x = cardOfRoom(1);
        forge(x, 6, 8, 144);
        message(x, 6, 1);
        step(x, 2, 4);
        count(x, 3, 1);
        side(x, 0, 1, 0);
        side(x, 0, 4, 0);
        step(x, 60, 2);
        sent(x, "r32 c144 r130 c144 r64 c0");
        got(x, 1, 6, 1);
        got(x, 0, 6, 2);
        side(x, 0, 10, 1);
        x = plainCard();
        x.room(2);
        step(x, 2, 2);
        forge(x, 13, 15, 144 ^ 64);
        message(x, 1, 3);
        step(x, 2, 4);
        side(x, 1, 1, 1);
        side(x, 1, 8, 0);
        step(x, 60, 2);
        sent(x, "r0 c32 r144 c146 r144 c64");
        side(x, 1, 10, 1);
        got(x, 0, 0, 1, 2);
    }

    /** The empty echo comes as an I of the other number, as an S that is refused, broken, or not at all: each three times over. */
    private static void threeTries() {
        for (int how = 0; how < 256; how++) {
            CardLink x = plainCard();
            for (int turn = 0; turn < 4; turn++) {
                spoilEcho(x, 4 + 8 * turn, how >> 2 * turn & 3);
            }
            // The fourth of them spoils the response to RESYNCH.
            message(x);
            step(x, 1, 2);
            count(x, 3, 0);
            step(x, 1, 2);
            count(x, 3, 1);
            due("KIND", log(x, 1, 1), 130);
            step(x, 1, 2);
            count(x, 3, 2);
            due("KIND", log(x, 1, 1), 130);
            side(x, 0, 7, -1);
            step(x, 1, 2);
            count(x, 3, 0);
            due("KIND", log(x, 1, 1), 192);
            due("KIND", log(x, 0, 1), 224);
            side(x, 0, 7, 0);
            // So it is asked again.
            step(x, 1, 2);
            count(x, 3, 1);
            due("KIND", log(x, 1, 1), 192);
            step(x, 1, 0);
            state(x, 3);
        }
    }

    private static void spoilEcho(CardLink x, int letter, int how) {
        if (how < 2) {
            forge(x, letter + 1, letter + 3, how == 0 ? 64 : 192);
        } else {
            for (int i = 0; i < (how == 2 ? 1 : 4); i++) {
                x.fault(letter + i, 3, 0);
            }
        }
    }

    /** Two of them and then a good one: done; and behind that the next message has all its tries. */
    private static void triesBegunAnew() {
        for (int how = 0; how < 16; how++) {
            CardLink x = plainCard();
            spoilEcho(x, 4, how & 3);
            spoilEcho(x, 12, how >> 2);
            for (int round = 1; round <= 2; round++) {
                message(x);
                step(x, 3, 6);
                count(x, 3, 2);
                step(x, 1, 0);
                state(x, 2);
                count(x, 3, 0);
                count(x, 8, round);
                spoilEcho(x, 4, 2);
                spoilEcho(x, 12, 3);
            }
            count(x, 9, 0);
        }
    }

    /** Both only send R to each other: as many turns as are asked for, sixty at most. */
    private static void sixtyTurns() {
        CardLink x = plainCard();
        forge(x, 1, 3, 32);
        message(x);
        for (int n : new int[] {61, 0, -1, 62, Integer.MAX_VALUE, Integer.MIN_VALUE}) {
            step(x, n, -1);
        }
        count(x, 0, 0);
        step(x, 60, 120);
        count(x, 0, 480);
        step(x, 59, 118);
        step(x, 1, 2);
        step(x, 2, 4);
        state(x, 1);
        side(x, 0, 9, 122);
        side(x, 1, 9, 122);
    }

    /** message and room: taken as at first, when done, when given up; refused on the way and when dead, and without a card. */
    private static void starts() {
        int[][] ways = {{}, {6}, {5, 2}, {5, 3}};
        for (int way = 0; way < 4; way++) {
            CardLink x = plainCard();
            if (way > 0) {
                message(x, ways[way]);
            }
            if (way == 3) {
                x.fault(31, 3, 0);
            }
            x.step(60);
            state(x, way == 0 ? 0 : way + 1);
            due("message of 61", message(x, new int[61]), -1);
            count(x, 10, 0);
            due("message of 96", message(x, new int[96]), -1);
            count(x, 10, 0);
            due("room(0)", x.room(0), -1);
            due("room(255)", x.room(255), -1);
            state(x, way == 0 ? 0 : way + 1);
            due("room(254)", x.room(254), way == 3 ? -1 : 1);
            due("room(9)", x.room(9), -1);
            state(x, way == 3 ? 4 : 1);
            step(x, 60, way == 3 ? -1 : 2);
            due("message of 60", message(x, new int[60]), way == 3 ? -1 : 2);
            count(x, 10, 0);
            state(x, way == 3 ? 4 : 1);
            due("message on the way, or dead", message(x), -1);
            due("room on the way, or dead", x.room(5), -1);
            step(x, 60, way == 3 ? -1 : 4);
            state(x, way == 3 ? 4 : 2);
        }
        CardLink x = new CardLink();
        due("message()", message(x), -1);
        due("message()", message(x, 6), -1);
        count(x, 10, 0);
        due("room(1)", x.room(1), -1);
        state(x, -1);
    }
}
