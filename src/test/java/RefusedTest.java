import java.util.Arrays;

/**
 * What is refused, and what only asks, changes nothing but the TAPE, which message() and reset() empty: of two
 * objects made alike one is asked and refused, and both then answer and go on alike.
 */
final class RefusedTest extends Check {
    private static final int WAYS = 18;
    private static final int[] ODD = {Integer.MIN_VALUE, -3, -2, -1, 0, 1, 2, 3, 4, 5, 6, 7, 8, 9, 10, 11, 12, 15, 16, 29, 30, 31, 59, 60,
        61, 63, 64, 255, 256, Integer.MAX_VALUE};

    private RefusedTest() {
    }

    public static void main(String[] args) {
        for (int way = 0; way < WAYS; way++) {
            refusedArguments(way);
            refusedStarts(way);
            refusedReset(way);
            refusedTape(way);
            questions(way);
        }
        close();
    }

    /** An object without a card, one by the fullest reset answer, and links in all that they can be about. */
    private static CardLink made(int way) {
        CardLink x = new CardLink();
        switch (way) {
            case 0:
                return x;
            case 1:
                x.repeats(3);
                return x;
            case 2:
                reset(x, checked(0x3f, 0xf2, 0x95, 0x00, 0x12, 0x81, 0x11, 0x07, 0xaa, 0xbb));
                return x;
            default:
                reset(x, 0x3b, 0x01, 0x99);
        }
        x.fault(400, 2, 7);
        x.fault(40, 3, 0);
        x.room(5);
        x.step(3);
        // Turns by steps, behind the message: the first turn to come, chains, what is asked, silence, all states.
        int[][] messages = {{}, {8, 1}, counting(60), counting(60), counting(60), {2, 7, 3, 1}, {2, 7, 3, 1}, {3, 9}, {4}, {5, 3}, {5, 3}, {5, 3}, {5, 2}, {5, 3}};
        int[] turns = {0, 0, 1, 2, 6, 1, 2, 1, 2, 1, 3, 5, 60, 60};
        if (way == 17) {
            x.room(20);
            return x;
        }
        int which = way - 3;
        if (which == 13) {
            x.fault(31, 3, 0);
        }
        if (which > 0) {
            message(x, messages[which]);
        }
        if (turns[which] > 0) {
            x.step(turns[which]);
        }
        if (which == 4) {
            for (int i = 0; i < 24; i++) {
                x.fault(200 + i, 1, 0);
            }
        }
        return x;
    }

    private static int[] counting(int n) {
        int[] bytes = new int[n];
        Arrays.setAll(bytes, i -> 8 + i);
        return bytes;
    }

    /** All that the object tells. */
    private static String sight(CardLink x) {
        StringBuilder all = new StringBuilder().append(x.state());
        for (int i = -1; i <= 16; i++) {
            all.append(' ').append(x.answer(i)).append(' ').append(x.historical(i)).append(' ').append(x.count(i));
            all.append(' ').append(x.side(0, i)).append(' ').append(x.side(1, i));
        }
        for (int i = -1; i <= 60; i++) {
            all.append(' ').append(x.got(0, i)).append(' ').append(x.got(1, i));
        }
        for (int i = 0; i <= 30; i++) {
            for (int what = 0; what <= 5; what++) {
                all.append(' ').append(log(x, i, what));
            }
            for (int k = 0; k <= 64; k++) {
                all.append(' ').append(x.byteOf(i, k));
            }
        }
        for (int what = 0; what <= 3; what++) {
            all.append(' ').append(x.would(what)).append(' ').append(x.harm(what, 0)).append(' ').append(x.harm(what, 1));
        }
        return all.toString();
    }

    private static void alike(String when, CardLink x, CardLink y) {
        due(when + ": they tell alike", sight(x).equals(sight(y)) ? 1 : 0, 1);
    }

    /** Both go on: to where they end, then with another message and another room. */
    private static void goOn(String when, CardLink x, CardLink y) {
        for (int i = 0; i < 6; i++) {
            due(when + ": step(1)", x.step(1), y.step(1));
            alike(when + ", turn " + i, x, y);
        }
        due(when + ": step(60)", x.step(60), y.step(60));
        due(when + ": fault", x.fault(20, 1, 0), y.fault(20, 1, 0));
        due(when + ": message()", message(x, 1, 40), message(y, 1, 40));
        due(when + ": step(60)", x.step(60), y.step(60));
        alike(when + ", a message", x, y);
        due(when + ": room(4)", x.room(4), y.room(4));
        due(when + ": step(60)", x.step(60), y.step(60));
        alike(when + ", a room", x, y);
        for (CardLink each : new CardLink[] {x, y}) {
            reset(each, 0x3b, 0);
            message(each, 6);
            each.step(60);
        }
        alike(when + ", a reset", x, y);
    }

    private static void refusedArguments(int way) {
        CardLink x = made(way);
        CardLink y = made(way);
        for (int n : new int[] {Integer.MIN_VALUE, -1, 0, 255, 256, Integer.MAX_VALUE}) {
            due("room(" + n + ")", x.room(n), -1);
        }
        for (int n : new int[] {Integer.MIN_VALUE, -1, 4, 5, Integer.MAX_VALUE}) {
            due("repeats(" + n + ")", x.repeats(n), -1);
        }
        for (int n : new int[] {Integer.MIN_VALUE, -1, 0, 61, Integer.MAX_VALUE}) {
            due("step(" + n + ")", x.step(n), -1);
        }
        for (int letter : new int[] {Integer.MIN_VALUE, -1, 1000, Integer.MAX_VALUE}) {
            due("fault(" + letter + ", 3, 0)", x.fault(letter, 3, 0), -1);
        }
        for (int kind : new int[] {Integer.MIN_VALUE, -1, 0, 4, Integer.MAX_VALUE}) {
            due("fault(0, " + kind + ", 0)", x.fault(0, kind, 0), -1);
            due("fault(0, " + kind + ", 1)", x.fault(0, kind, 1), -1);
        }
        for (int bits : new int[] {Integer.MIN_VALUE, -1, 256, 257, Integer.MAX_VALUE}) {
            for (int kind = 1; kind <= 3; kind++) {
                due("fault(0, " + kind + ", " + bits + ")", x.fault(0, kind, bits), -1);
            }
        }
        due("fault(0, 2, 0)", x.fault(0, 2, 0), -1);
        due("fault(0, 1, 1)", x.fault(0, 1, 1), -1);
        due("fault(0, 3, 255)", x.fault(0, 3, 255), -1);
        alike("refused arguments, way " + way, x, y);
        goOn("refused arguments, way " + way, x, y);
    }

    /** What the state forbids: without a card all, on the way and dead a start, else a step; with 24 FAULTS one more. */
    private static void refusedStarts(int way) {
        CardLink x = made(way);
        CardLink y = made(way);
        int state = x.state();
        int started = state == -1 || state == 1 || state == 4 ? -1 : 0;
        if (started == -1) {
            due("room(5) in state " + state, x.room(5), -1);
            due("message() in state " + state, message(x, 6, 1), -1);
            count(x, 10, 0);
            due("message() of none in state " + state, message(x), -1);
        }
        due("message() of 61", message(x, counting(61)), -1);
        count(x, 10, 0);
        due("message() of 96", message(x, counting(96)), -1);
        count(x, 10, 0);
        if (state != 1) {
            due("step(1) in state " + state, x.step(1), -1);
            due("step(60) in state " + state, x.step(60), -1);
            for (int what = 0; what <= 3; what++) {
                due("would(" + what + ") in state " + state, x.would(what), -1);
                due("harm(" + what + ", 0) in state " + state, x.harm(what, 0), -1);
                due("harm(" + what + ", 1) in state " + state, x.harm(what, 1), -1);
            }
        }
        if (state == -1 || x.count(2) == 24) {
            due("fault", x.fault(0, 3, 0), -1);
            due("fault", x.fault(200, 2, 255), -1);
        }
        alike("refused starts, way " + way, x, y);
        goOn("refused starts, way " + way, x, y);
    }

    /** Each kind of FAULT of a reset answer: the card that was, and its link, are as they were. */
    private static void refusedReset(int way) {
        CardLink x = made(way);
        CardLink y = made(way);
        int[][] answers = {{}, {0x3b}, {0x3a, 0}, {0x3f, 0xff, 0x96, 1, 2, 0x81, 0x12}, {0x3b, 0x80, 0x80, 0x80, 0x80, 0x10}, {0x3b, 0x10, 0x70},
            {0x3b, 0x80, 0x81, 0x11, 0x00}, {0x3b, 0x83, 0x01, 1, 2, 3, 0}, {0x3b, 0x02, 0x77, 0x78, 0x79}, counting(96)};
        int[] answered = {-3, -11, -4, -53, -45, -22, -39, -56, -41, -4};
        for (int i = 0; i < answers.length; i++) {
            due("reset() of " + Arrays.toString(answers[i]), reset(x, answers[i]), answered[i]);
            count(x, 10, 0);
        }
        alike("refused reset, way " + way, x, y);
        goOn("refused reset, way " + way, x, y);
    }

    /** What feed and end refuse, whatever the link is about. */
    private static void refusedTape(int way) {
        CardLink x = made(way);
        CardLink y = made(way);
        tape(x, counting(81));
        tape(y, counting(81));
        due("feed at 81", x.feed(-1, -1), -1);
        for (int n : new int[] {Integer.MIN_VALUE, -1, 82, 96, 97, Integer.MAX_VALUE}) {
            due("end(" + n + ")", x.end(n), -1);
        }
        alike("refused tape, way " + way, x, y);
        due("end(60)", x.end(60), y.end(60));
        due("message()", x.message(), y.message());
        alike("refused tape and a message, way " + way, x, y);
        goOn("refused tape, way " + way, x, y);
    }

    /** All questions, at and beyond the edges of what they take, ahead of each turn. */
    private static void questions(int way) {
        CardLink x = made(way);
        CardLink y = made(way);
        tape(x, 6, 1, 1);
        tape(y, 6, 1, 1);
        for (int turn = 0; turn < 5; turn++) {
            for (int a : ODD) {
                ask(x, a);
            }
            due("count(10)", x.count(10), 3);
            due("step(1)", x.step(1), y.step(1));
        }
        alike("questions, way " + way, x, y);
        due("message()", x.message(), y.message());
        goOn("questions, way " + way, x, y);
    }

    private static void ask(CardLink x, int a) {
        boolean card = x.state() != -1;
        due("answer(" + a + ")", x.answer(a) == -1 ? 0 : 1, card && a >= 0 && a <= 8 ? 1 : 0);
        due("historical(" + a + ")", x.historical(a) == -1 ? 0 : 1, a >= 0 && a < x.answer(6) ? 1 : 0);
        due("count(" + a + ")", x.count(a) == -1 ? 0 : 1, a >= 0 && a <= 10 ? 1 : 0);
        due("would(" + a + ")", x.would(a) == -1 && a != 3 ? 0 : 1, x.state() == 1 && a >= 0 && a <= 2 || a == 3 ? 1 : 0);
        for (int b : ODD) {
            boolean sided = card && (a == 0 || a == 1);
            due("side(" + a + ", " + b + ")", x.side(a, b) == -2 ? 0 : 1, sided && b >= 0 && b <= 10 ? 1 : 0);
            boolean came = sided && x.side(a, 10) > 0 && (b == -1 || b >= 0 && b < x.got(a, -1));
            due("got(" + a + ", " + b + ")", x.got(a, b) == -2 ? 0 : 1, came ? 1 : 0);
            boolean logged = a >= 0 && a < x.count(5);
            due("log(" + a + ", " + b + ")", log(x, a, b) == -9 ? 0 : 1, logged && b >= 0 && b <= 5 ? 1 : 0);
            due("byteOf(" + a + ", " + b + ")", x.byteOf(a, b) == -1 ? 0 : 1, logged && b >= 0 && b < log(x, a, 2) + 4 ? 1 : 0);
            boolean done = x.would(0) == 2 && a >= 1 && a <= 3 && (b == 0 || b == 1);
            boolean none = done && b == 1 && x.harm(a, 0) == 0;
            due("harm(" + a + ", " + b + ")", x.harm(a, b) == -1 ? 0 : 1, done && !none ? 1 : 0);
        }
    }
}
