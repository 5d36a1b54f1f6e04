import java.util.NoSuchElementException;

/** All promises at their limits: wrong arguments in every state, the dearest calls, more calls than are promised. */
final class LimitsTest {
    private static final int[] ODD = {Integer.MIN_VALUE, Integer.MIN_VALUE + 1, -257, -2, -1, 0, 1, 2, 3, 4, 5, 23, 24, 29, 30, 31,
        60, 61, 96, 97, 254, 255, 256, 999, 1000, Integer.MAX_VALUE - 1, Integer.MAX_VALUE};

    private LimitsTest() {
    }

    public static void main(String[] args) {
        everyState();
        dearest();
        beyondPromised();
        Check.close();
    }

    private static void everyState() {
        for (int how = 0; how < 7; how++) {
            CardLink x = inState(how);
            int state = x.state();
            int letters = x.count(0);
            for (int a : ODD) {
                for (int b : ODD) {
                    ask(x, a, b);
                }
            }
            Check.due("state() behind questions", x.state(), state);
            Check.due("count(0) behind questions", x.count(0), letters);
            for (int a : ODD) {
                change(x, a, how);
            }
        }
    }

    private static CardLink inState(int how) {
        CardLink x = how == 0 ? new CardLink() : Check.plainCard();
        if (how > 1) {
            Check.message(x, how == 5 ? new int[] {5, 2} : how == 6 ? new int[] {5, 3} : new int[] {8, 1, 2});
        }
        if (how == 6) {
            x.fault(31, 3, 0);
        }
        if (how > 3) {
            x.step(60);
        } else if (how == 3) {
            x.step(1);
        }
        Check.due("state", x.state(), new int[] {-1, 0, 1, 1, 2, 3, 4}[how]);
        return x;
    }

    private static void ask(CardLink x, int a, int b) {
        x.answer(a);
        x.historical(a);
        x.side(a, b);
        x.got(a, b);
        Check.log(x, a, b);
        x.byteOf(a, b);
        x.would(a);
        x.harm(a, b);
        x.count(a);
    }

    private static void change(CardLink x, int a, int how) {
        x.feed((long) a << 32 ^ a, ~a);
        x.end(a);
        for (int b : ODD) {
            x.fault(a, b, a);
            x.fault(b, 2, a);
        }
        x.repeats(a);
        x.step(a);
        x.room(a);
        x.message();
        if (a == how) {
            x.reset();
        }
        Check.due("the tape is 96 at most", x.count(10) <= 96 ? 1 : 0, 1);
        Check.due("faults are 24 at most", x.count(2) <= 24 ? 1 : 0, 1);
    }

    /** Sixty blocks there, sixty back, and harm at each of their letters. */
    private static void dearest() {
        CardLink x = Check.cardOfRoom(1);
        x.room(1);
        x.step(3);
        int[] m = new int[60];
        m[0] = 8;
        Check.due("message()", Check.message(x, m), 60);
        Check.due("would(0)", x.would(0), 2);
        Check.due("would(1)", x.would(1), 238);
        Check.due("would(2)", x.would(2), 120 * 5 + 118 * 4);
        Check.due("would(3)", x.would(3), 60);
        for (int kind = 1; kind <= 3; kind++) {
            Check.due("harm(" + kind + ", 0)", x.harm(kind, 0), 0);
        }
        Check.due("step(60)", x.step(60), 120);
        Check.due("step(60)", x.step(60), 118);
        Check.due("state()", x.state(), 2);
    }

    /** An object's later calls are free in what they answer, but none may throw by itself. */
    private static void beyondPromised() {
        CardLink x = Check.cardOfRoom(2);
        int seed = 7;
        for (int i = 0; i < 3000; i++) {
            int[] m = new int[60];
            for (int k = 0; k < 60; k++) {
                seed = seed * 1103515245 + 12345;
                m[k] = seed >>> 16 & 255;
            }
            m[0] = 8;
            Check.message(x, m);
            x.step(60);
            try {
                x.log(29, 5);
            } catch (NoSuchElementException e) {
                Check.due("log(29, 5) throws", 1, 0);
            }
        }
        Check.due("state()", x.state() >= 1 ? 1 : 0, 1);
    }
}
