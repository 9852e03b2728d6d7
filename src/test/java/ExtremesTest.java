import java.util.Arrays;

/** Every call with every mixture of small, great and wrapping numbers, in several states: none throws by itself. */
public final class ExtremesTest {
    private static final int[] VALUES = {Integer.MIN_VALUE, -1, 0, 1, 2, 5, 12, 13, 32, 33, 120, 9999, 99999, Integer.MAX_VALUE};
    private static final String[] CALLS = {"fields", "number", "weeks", "line", "count", "sand", "mouth", "wall", "feed", "wave", "look",
        "border", "without", "mark", "groyne", "dredge", "share", "work", "survey"};
    private static final int[] PARAMETERS = {1, 1, 1, 1, 1, 2, 2, 2, 2, 2, 2, 2, 2, 2, 3, 3, 3, 4, 4};
    private static final int STATES = 4;
    /** With what makes the state and what is asked behind them the object stays within its 512 calls. */
    private static final int CALLS_OF_AN_OBJECT = 250;

    private static int wrong = 0;

    private static ShoreFields made(int state) {
        ShoreFields x = new ShoreFields();
        if (state == 0) {
            return x;
        }
        x.fields(state == 1 ? 2 : 12);
        x.mouth(1, 100);
        for (int border = 2; border < 12; border++) {
            x.groyne(border, 999, 50);
        }
        for (int week = 0; week < (state == 3 ? 120 : 10); week++) {
            x.wave(week % 10, week % 3);
        }
        if (state > 1) {
            x.weeks(9);
        }
        for (int i = 0; state == 3 && i < 20; i++) {
            x.dredge(1, 9999, i % 12);
            x.survey(i % 12, 120, 0, 9999);
            x.work(i % 2, 2 + i % 6, 999, 999);
        }
        return x;
    }

    private static void make(ShoreFields x, String call, int... a) {
        int got = Runs.answer(x, call, a);
        boolean mayThrow = call.equals("line") || call.equals("share");
        if (got == Runs.THROWN && !mayThrow) {
            wrong++;
            System.out.println(call + Arrays.toString(a) + " throws");
        }
    }

    private static void askAll(ShoreFields x) {
        make(x, "works");
        make(x, "fits");
        make(x, "without", 4, 1);
        make(x, "share", 2, 4 | 8 | 16 | 32, 11);
        make(x, "count", 6);
    }

    private static void everyMixture(int state, String call, int parameters) {
        int mixtures = 1;
        for (int i = 0; i < parameters; i++) {
            mixtures *= VALUES.length;
        }
        ShoreFields x = made(state);
        for (int mixture = 0; mixture < mixtures; mixture++) {
            int[] a = new int[parameters];
            int rest = mixture;
            for (int i = 0; i < parameters; i++) {
                a[i] = VALUES[rest % VALUES.length];
                rest /= VALUES.length;
            }
            make(x, call, a);
            if ((mixture + 1) % CALLS_OF_AN_OBJECT == 0) {
                askAll(x);
                x = made(state);
            }
        }
        askAll(x);
    }

    public static void main(String[] args) {
        for (int state = 0; state < STATES; state++) {
            for (int i = 0; i < CALLS.length; i++) {
                everyMixture(state, CALLS[i], PARAMETERS[i]);
            }
        }
        System.out.println(wrong == 0 ? "no call throws by itself" : wrong + " calls throw");
        if (wrong != 0) {
            System.exit(1);
        }
    }
}
