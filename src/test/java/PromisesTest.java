import java.util.NoSuchElementException;
import java.util.function.Consumer;

/** Each promise of the document by hand-made runs: ordinary inputs, the edges it names, and wrong inputs. */
public final class PromisesTest {
    /** No index, bit or kind at all, some of them such that a shift by them would wrap round to a good one. */
    private static final int[] FAR = {Integer.MIN_VALUE, Integer.MIN_VALUE + 1, -32, -31, -2, 32, 33, 64, Integer.MAX_VALUE};
    /** Beyond every number that the document allows. */
    private static final int[] BEYOND = {Integer.MIN_VALUE, -2, 100001, Integer.MAX_VALUE};

    private static int promise = 0;
    private static int wrong = 0;

    private static void due(String call, long got, long want) {
        if (got != want) {
            wrong++;
            System.out.println("promise " + promise + ": " + call + " answered " + got + ", due is " + want);
        }
    }

    private static void due(String call, boolean got, boolean want) {
        due(call, got ? 1 : 0, want ? 1 : 0);
    }

    private static void dueRefusal(String call, Runnable made) {
        boolean refused = false;
        try {
            made.run();
        } catch (NoSuchElementException e) {
            refused = true;
        }
        due(call + " throws NoSuchElementException", refused, true);
    }

    private static ShoreFields shore(int fields) {
        ShoreFields x = new ShoreFields();
        due("fields(" + fields + ")", x.fields(fields), true);
        return x;
    }

    private static ShoreFields afterOneWeek(int fields) {
        ShoreFields x = shore(fields);
        x.wave(3, 2);
        x.weeks(1);
        return x;
    }

    private static void dueSands(ShoreFields x, int... sands) {
        for (int i = 0; i < sands.length; i++) {
            due("look(" + i + ", 0)", x.look(i, 0), sands[i]);
            due("line(" + i + ")", x.line(i), sands[i] / 10);
        }
    }

    private static void duePassed(ShoreFields x, int... passed) {
        for (int i = 0; i < passed.length; i++) {
            due("border(" + i + ", 3)", x.border(i, 3), passed[i]);
        }
    }

    private static void promise1NewObject() {
        ShoreFields x = new ShoreFields();
        due("NONE", ShoreFields.NONE, -1);
        due("count(0)", x.count(0), 6);
        dueSands(x, 1000, 1000, 1000, 1000, 1000, 1000);
        duePassed(x, 0, 0, 0, 0, 0, 0, 0);
        for (int i = 0; i < 6; i++) {
            due("look(i, 1)", x.look(i, 1), 0);
            due("look(i, 2)", x.look(i, 2), 0);
            due("border(i, 0)", x.border(i, 0), 0);
        }
        for (int what = 1; what <= 5; what++) {
            due("count(" + what + ")", x.count(what), 0);
        }
        due("count(6)", x.count(6), 6000);
        due("works()", x.works(), 0);
        due("fits()", x.fits(), 511);
        due("look(6, 0)", x.look(6, 0), -1);
        x.wave(5, 0);
        x.wave(5, 1);
        x.weeks(1);
        duePassed(x, 20, 20, 20, 20, 20, 20, 20);
        x.weeks(1);
        duePassed(x, -20, -20, -20, -20, -20, -20, -20);
    }

    private static void dueFixed(String call, Consumer<ShoreFields> told) {
        ShoreFields x = new ShoreFields();
        told.accept(x);
        due("fields(3) behind " + call, x.fields(3), false);
        due("count(0) behind " + call, x.count(0), 6);
    }

    private static void promise2Fields() {
        ShoreFields x = new ShoreFields();
        for (int n : new int[] {1, 0, -1, 13}) {
            due("fields(" + n + ")", x.fields(n), false);
        }
        for (int n : FAR) {
            due("fields(" + n + ")", x.fields(n), false);
        }
        due("count(0)", x.count(0), 6);
        for (int n = 2; n <= 12; n++) {
            due("fields(" + n + ")", x.fields(n), true);
            due("count(0)", x.count(0), n);
            due("count(6)", x.count(6), 1000L * n);
            due("look(n - 1, 0)", x.look(n - 1, 0), 1000);
            due("look(n, 0)", x.look(n, 0), -1);
            due("border(n, 0)", x.border(n, 0), 0);
            due("border(n + 1, 0)", x.border(n + 1, 0), -1);
        }
        dueFixed("sand", y -> y.sand(0, 5));
        dueFixed("groyne", y -> y.groyne(1, 5, 5));
        dueFixed("mouth", y -> y.mouth(1, 5));
        dueFixed("wall", y -> y.wall(0, 5));
        dueFixed("feed", y -> y.feed(0, 5));
        dueFixed("number", y -> y.number(5));
        dueFixed("wave", y -> y.wave(5, 0));
        dueFixed("work", y -> y.work(0, 0, 5, 5));
        dueFixed("mark", y -> y.mark(0, 5));
        dueFixed("survey", y -> y.survey(0, 5, 5, 5));
        ShoreFields z = new ShoreFields();
        z.sand(6, 1);
        z.groyne(6, 1, 1);
        z.mouth(0, 1);
        z.wall(-1, 1);
        z.feed(2, 1);
        z.number(0);
        z.wave(10, 0);
        z.weeks(1);
        z.weeks(0);
        z.dredge(1, 1, 1);
        z.line(0);
        z.without(0, 0);
        z.work(1, 1, 1, 1);
        z.mark(6, 1);
        z.works();
        z.survey(0, 0, 1, 1);
        z.fits();
        due("fields(4) behind refused and asking calls", z.fields(4), true);
    }

    private static void promise3Sand() {
        ShoreFields x = shore(3);
        due("sand(0, 0)", x.sand(0, 0), true);
        due("sand(1, 99999)", x.sand(1, 99999), true);
        due("sand(2, 1239)", x.sand(2, 1239), true);
        dueSands(x, 0, 99999, 1239);
        due("count(6)", x.count(6), 101238);
        due("sand(2, 7)", x.sand(2, 7), true);
        due("without(0, 2)", x.without(0, 2), 0);
        due("sand(3, 1)", x.sand(3, 1), false);
        due("sand(-1, 1)", x.sand(-1, 1), false);
        due("sand(0, -1)", x.sand(0, -1), false);
        due("sand(0, 100000)", x.sand(0, 100000), false);
        for (int far : FAR) {
            due("sand(" + far + ", 1)", x.sand(far, 1), false);
        }
        for (int beyond : BEYOND) {
            due("sand(0, " + beyond + ")", x.sand(0, beyond), false);
        }
        dueSands(x, 0, 99999, 7);
        ShoreFields y = afterOneWeek(3);
        due("sand behind a week", y.sand(0, 5), false);
        dueSands(y, 1000, 1000, 1000);
    }

    private static void promise4Groyne() {
        ShoreFields x = shore(4);
        due("groyne(1, 1, 0)", x.groyne(1, 1, 0), true);
        due("groyne(3, 999, 100)", x.groyne(3, 999, 100), true);
        due("border(1, 0)", x.border(1, 0), 1);
        due("border(3, 1)", x.border(3, 1), 999);
        due("border(3, 2)", x.border(3, 2), 100);
        due("groyne(0, 1, 1)", x.groyne(0, 1, 1), false);
        due("groyne(4, 1, 1)", x.groyne(4, 1, 1), false);
        due("groyne(1, -1, 1)", x.groyne(1, -1, 1), false);
        due("groyne(1, 1000, 1)", x.groyne(1, 1000, 1), false);
        due("groyne(1, 1, -1)", x.groyne(1, 1, -1), false);
        due("groyne(1, 1, 101)", x.groyne(1, 1, 101), false);
        for (int far : FAR) {
            due("groyne(" + far + ", 1, 1)", x.groyne(far, 1, 1), false);
        }
        for (int beyond : BEYOND) {
            due("groyne(1, " + beyond + ", 1)", x.groyne(1, beyond, 1), false);
            due("groyne(1, 1, " + beyond + ")", x.groyne(1, 1, beyond), false);
        }
        due("border(1, 1)", x.border(1, 1), 1);
        due("border(1, 2)", x.border(1, 2), 0);
        due("groyne(1, 0, 0)", x.groyne(1, 0, 0), true);
        due("border(1, 0) of one taken away", x.border(1, 0), 0);
        due("mouth(2, 30)", x.mouth(2, 30), true);
        due("groyne(2, 40, 50) for a mouth", x.groyne(2, 40, 50), true);
        due("border(2, 0)", x.border(2, 0), 1);
        due("border(2, 1)", x.border(2, 1), 40);
        x.mouth(2, 30);
        due("groyne(2, 0, 0) for a mouth", x.groyne(2, 0, 0), true);
        due("border(2, 0)", x.border(2, 0), 0);
        due("groyne behind a week", afterOneWeek(3).groyne(1, 5, 5), false);

        // the line of U, 100, reaches a length of 100 and goes round it; 101 holds all but the leak back
        ShoreFields y = shore(3);
        y.groyne(1, 100, 0);
        y.groyne(2, 101, 33);
        y.wave(5, 0);
        y.weeks(1);
        duePassed(y, 20, 20, 6, 20);
        dueSands(y, 1000, 1014, 986);
        // from the right it is the other field whose line counts
        ShoreFields z = shore(2);
        z.sand(0, 2000);
        z.groyne(1, 150, 10);
        z.wave(5, 1);
        z.weeks(1);
        duePassed(z, -20, 0, -20);
        ShoreFields w = shore(2);
        w.sand(1, 2000);
        w.groyne(1, 150, 10);
        w.wave(5, 1);
        w.weeks(1);
        duePassed(w, -20, -35, -20);
    }

    private static void promise5Mouth() {
        ShoreFields x = shore(3);
        due("mouth(1, 0)", x.mouth(1, 0), true);
        due("mouth(2, 100)", x.mouth(2, 100), true);
        due("border(2, 0)", x.border(2, 0), 2);
        due("border(2, 1)", x.border(2, 1), 100);
        due("border(2, 2)", x.border(2, 2), 0);
        due("mouth(0, 1)", x.mouth(0, 1), false);
        due("mouth(3, 1)", x.mouth(3, 1), false);
        due("mouth(1, -1)", x.mouth(1, -1), false);
        due("mouth(1, 101)", x.mouth(1, 101), false);
        for (int far : FAR) {
            due("mouth(" + far + ", 1)", x.mouth(far, 1), false);
        }
        for (int beyond : BEYOND) {
            due("mouth(1, " + beyond + ")", x.mouth(1, beyond), false);
        }
        x.groyne(1, 10, 10);
        due("mouth(1, 37) for a groyne", x.mouth(1, 37), true);
        due("border(1, 0)", x.border(1, 0), 2);
        due("border(1, 1)", x.border(1, 1), 37);
        due("mouth behind a week", afterOneWeek(3).mouth(1, 5), false);
        x.wave(5, 0);
        x.wave(5, 1);
        x.weeks(1);
        // 20 pass: 37 of 100 are 7.4
        duePassed(x, 20, 20, 20, 20);
        due("border(1, 2)", x.border(1, 2), 7);
        due("border(2, 2)", x.border(2, 2), 20);
        dueSands(x, 1000, 993, 980);
        due("count(6)", x.count(6), 3000);
        x.weeks(1);
        // lines 100, 99, 98: -1 and -1 of slope cost 5/3, cut to 1
        duePassed(x, -20, -19, -19, -20);
        due("border(1, 2)", x.border(1, 2), 14);
        due("border(2, 2)", x.border(2, 2), 39);
        dueSands(x, 992, 974, 981);
    }

    private static void promise6Wall() {
        ShoreFields x = shore(2);
        due("wall(0, 999)", x.wall(0, 999), true);
        due("wall(0, 0)", x.wall(0, 0), true);
        due("wall(1, 99)", x.wall(1, 99), true);
        due("wall(2, 1)", x.wall(2, 1), false);
        due("wall(-1, 1)", x.wall(-1, 1), false);
        due("wall(0, -1)", x.wall(0, -1), false);
        due("wall(0, 1000)", x.wall(0, 1000), false);
        for (int far : FAR) {
            due("wall(" + far + ", 1)", x.wall(far, 1), false);
        }
        for (int beyond : BEYOND) {
            due("wall(0, " + beyond + ")", x.wall(0, beyond), false);
        }
        due("wall behind a week", afterOneWeek(2).wall(0, 5), false);
        x.wave(6, 0);
        x.wave(6, 1);
        x.wave(9, 2);
        x.weeks(1);
        duePassed(x, 24, 24, 10);
        due("look(1, 2)", x.look(1, 2), 14);
        dueSands(x, 1000, 1014);
        x.weeks(1);
        // 24 + 6 * 1 / 3 would pass from the wall's field, 24 do
        duePassed(x, -24, -24, -24);
        due("look(1, 2)", x.look(1, 2), 16);
        due("look(0, 2)", x.look(0, 2), 0);
        dueSands(x, 1000, 1014);
        x.weeks(1);
        dueSands(x, 973, 990);
        due("look(1, 1)", x.look(1, 1), 24);
        due("look(1, 2) without storms", x.look(1, 2), 16);

        // sand below the wall's mark: all that is there and would go is scour
        ShoreFields y = shore(2);
        y.sand(0, 15);
        y.wall(0, 2);
        y.feed(0, 0);
        y.wave(9, 0);
        y.weeks(1);
        duePassed(y, 0, 0, 36);
        due("look(0, 2)", y.look(0, 2), 9);
        due("look(0, 0)", y.look(0, 0), 15);
        ShoreFields z = shore(2);
        z.sand(0, 5);
        z.wall(0, 1);
        z.sand(1, 0);
        z.feed(0, 0);
        z.wave(9, 0);
        z.weeks(1);
        due("scour of no more than the sand", z.look(0, 2), 5);
        dueSands(z, 5, 0);
    }

    private static void promise7Feed() {
        ShoreFields x = shore(2);
        due("feed(0, 0)", x.feed(0, 0), true);
        due("feed(1, 200)", x.feed(1, 200), true);
        due("feed(0, 33)", x.feed(0, 33), true);
        due("feed(2, 1)", x.feed(2, 1), false);
        due("feed(-1, 1)", x.feed(-1, 1), false);
        due("feed(0, -1)", x.feed(0, -1), false);
        due("feed(0, 201)", x.feed(0, 201), false);
        for (int far : FAR) {
            due("feed(" + far + ", 1)", x.feed(far, 1), false);
        }
        for (int beyond : BEYOND) {
            due("feed(1, " + beyond + ")", x.feed(1, beyond), false);
        }
        due("feed behind a week", afterOneWeek(2).feed(0, 5), false);
        x.wave(5, 0);
        x.wave(5, 1);
        x.weeks(1);
        // 20 * 33 of 100 are 6.6
        duePassed(x, 6, 20, 20);
        dueSands(x, 986, 1000);
        x.weeks(1);
        // 20 + 5 * 2 / 3 from the right
        duePassed(x, -20, -23, -40);
        dueSands(x, 989, 1017);
    }

    private static void promise8Number() {
        ShoreFields x = shore(2);
        for (int k : new int[] {0, -1, 10}) {
            due("number(" + k + ")", x.number(k), false);
        }
        for (int far : FAR) {
            due("number(" + far + ")", x.number(far), false);
        }
        due("number(1)", x.number(1), true);
        due("number(9)", x.number(9), true);
        x.wave(7, 0);
        x.weeks(1);
        duePassed(x, 63, 63, 63);
        due("number behind a week", x.number(4), false);
        x.wave(7, 0);
        x.weeks(1);
        duePassed(x, 63, 63, 63);
    }

    private static int passedBetween(int k, int height, int left, int right) {
        ShoreFields x = shore(2);
        x.number(k);
        x.sand(0, left);
        x.sand(1, right);
        x.wave(height, 0);
        x.weeks(1);
        return x.border(1, 3);
    }

    private static void promise9Wave() {
        ShoreFields x = shore(2);
        due("wave(-1, 0)", x.wave(-1, 0), -1);
        due("wave(10, 0)", x.wave(10, 0), -1);
        due("wave(0, -1)", x.wave(0, -1), -1);
        due("wave(0, 3)", x.wave(0, 3), -1);
        for (int far : FAR) {
            due("wave(" + far + ", 0)", x.wave(far, 0), -1);
            due("wave(0, " + far + ")", x.wave(0, far), -1);
        }
        for (int i = 0; i < 120; i++) {
            due("wave", x.wave(i % 10, i % 3), i + 1);
        }
        due("wave of week 121", x.wave(0, 0), -1);
        due("count(1)", x.count(1), 120);
        due("weeks(120)", x.weeks(120), 120);
        due("wave behind all weeks", x.wave(0, 0), -1);
        ShoreFields y = afterOneWeek(2);
        due("wave behind a week", y.wave(4, 1), 2);

        due("slope 2", passedBetween(4, 5, 1020, 1000), 23);
        due("slope -2", passedBetween(4, 5, 1000, 1020), 17);
        due("slope 9", passedBetween(4, 5, 1090, 1000), 35);
        due("slope above 9", passedBetween(4, 5, 1100, 1000), 35);
        due("slope -9", passedBetween(4, 5, 1000, 1090), 5);
        due("slope below -9", passedBetween(4, 5, 1000, 99999), 5);
        due("slope by lines", passedBetween(4, 6, 1009, 1000), 24);
        due("0 at least", passedBetween(1, 9, 1000, 1090), 0);
        due("not more than the sand", passedBetween(9, 9, 50, 1000), 50);
    }

    private static void promise10Weeks() {
        ShoreFields x = shore(2);
        due("weeks(0)", x.weeks(0), 0);
        due("weeks(1)", x.weeks(1), -1);
        due("weeks(-1)", x.weeks(-1), -1);
        due("weeks(121)", x.weeks(121), -1);
        for (int far : FAR) {
            due("weeks(" + far + ")", x.weeks(far), -1);
        }
        for (int i = 0; i < 4; i++) {
            x.wave(9, 2);
        }
        due("weeks(0)", x.weeks(0), 0);
        due("sand behind weeks(0)", x.sand(0, 1000), true);
        due("weeks(5)", x.weeks(5), -1);
        dueSands(x, 1000, 1000);
        due("weeks(1)", x.weeks(1), 1);
        dueSands(x, 973, 973);
        due("weeks(4)", x.weeks(4), -1);
        due("weeks(3)", x.weeks(3), 4);
        dueSands(x, 892, 892);
        due("weeks(0)", x.weeks(0), 4);
        due("count(2)", x.count(2), 4);

        stormsAndCalm();
        sandAboveTheMost();
    }

    private static void stormsAndCalm() {
        ShoreFields x = shore(2);
        x.sand(1, 10);
        for (int height : new int[] {7, 6, 3, 2, 1, 0, 0}) {
            x.wave(height, 2);
        }
        x.weeks(1);
        dueSands(x, 979, 0);
        due("look(0, 1)", x.look(0, 1), 21);
        due("look(1, 1)", x.look(1, 1), 10);
        x.weeks(2);
        dueSands(x, 979, 0);
        x.weeks(1);
        dueSands(x, 985, 3);
        due("look(0, 1)", x.look(0, 1), 15);
        due("look(1, 1)", x.look(1, 1), 7);
        x.weeks(1);
        dueSands(x, 989, 5);
        x.weeks(2);
        // 11 and 5 out at sea: 3 and 2 come back, then 2 and 1
        dueSands(x, 994, 8);
        due("look(0, 1)", x.look(0, 1), 6);
        due("look(1, 1)", x.look(1, 1), 2);
        due("count(6)", x.count(6), 1010);
        // a storm takes what is there behind the passing
        ShoreFields y = shore(2);
        y.sand(0, 0);
        y.wave(7, 0);
        y.weeks(1);
        duePassed(y, 28, 0, 28);
        dueSands(y, 7, 951);
    }

    private static void sandAboveTheMost() {
        ShoreFields x = shore(2);
        x.sand(0, 99999);
        x.number(9);
        x.feed(0, 200);
        x.wave(9, 0);
        x.wave(6, 0);
        x.wave(0, 2);
        x.weeks(1);
        // 99999 + 162 - 108 is lost above 99999 ahead of the storm
        duePassed(x, 162, 108, 81);
        due("look(0, 0)", x.look(0, 0), 99972);
        x.weeks(1);
        duePassed(x, 108, 72, 54);
        due("look(0, 0)", x.look(0, 0), 99999);
        x.weeks(1);
        due("look(0, 0)", x.look(0, 0), 99999);
        due("look(0, 1)", x.look(0, 1), 20);
    }

    private static void promise11Dredge() {
        ShoreFields x = shore(3);
        x.mouth(1, 50);
        x.groyne(2, 10, 10);
        for (int i = 0; i < 2; i++) {
            x.wave(5, 0);
        }
        x.weeks(1);
        due("border(1, 2)", x.border(1, 2), 10);
        due("dredge(0, 1, 0)", x.dredge(0, 1, 0), -1);
        due("dredge(2, 1, 0) at a groyne", x.dredge(2, 1, 0), -1);
        due("dredge(3, 1, 0)", x.dredge(3, 1, 0), -1);
        due("dredge(1, 0, 0)", x.dredge(1, 0, 0), -1);
        due("dredge(1, 10000, 0)", x.dredge(1, 10000, 0), -1);
        due("dredge(1, 1, 3)", x.dredge(1, 1, 3), -1);
        due("dredge(1, 1, -1)", x.dredge(1, 1, -1), -1);
        for (int far : FAR) {
            due("dredge(" + far + ", 1, 0)", x.dredge(far, 1, 0), -1);
            due("dredge(1, 1, " + far + ")", x.dredge(1, 1, far), -1);
        }
        for (int beyond : BEYOND) {
            due("dredge(1, " + beyond + ", 0)", x.dredge(1, beyond, 0), -1);
        }
        due("count(5)", x.count(5), 0);
        due("dredge(1, 3, 2)", x.dredge(1, 3, 2), 3);
        due("border(1, 2)", x.border(1, 2), 7);
        dueSands(x, 1000, 990, 1003);
        due("dredge(1, 9999, 0)", x.dredge(1, 9999, 0), 7);
        dueSands(x, 1007, 990, 1003);
        for (int i = 2; i < 20; i++) {
            due("dredge(1, 1, 0)", x.dredge(1, 1, 0), 0);
        }
        due("count(5)", x.count(5), 20);
        x.weeks(1);
        due("dredge 21", x.dredge(1, 1, 0), -1);
        due("count(5)", x.count(5), 20);

        ShoreFields y = shore(2);
        y.mouth(1, 100);
        due("dredge ahead of all weeks", y.dredge(1, 5, 0), 0);
        due("count(5)", y.count(5), 1);
        due("mouth is still of the begin", y.mouth(1, 99), true);

        ShoreFields z = shore(2);
        z.mouth(1, 100);
        z.sand(0, 99999);
        z.wave(5, 0);
        z.weeks(1);
        due("dredge(1, 35, 0)", z.dredge(1, 35, 0), 35);
        due("look(0, 0) filled", z.look(0, 0), 99999);
        due("border(1, 2)", z.border(1, 2), 0);
    }

    private static void promise12Line() {
        ShoreFields x = shore(2);
        x.sand(0, 999);
        x.sand(1, 9);
        due("line(0)", x.line(0), 99);
        due("line(1)", x.line(1), 0);
        x.sand(1, 99999);
        due("line(1)", x.line(1), 9999);
        dueRefusal("line(2)", () -> x.line(2));
        dueRefusal("line(-1)", () -> x.line(-1));
        for (int far : FAR) {
            dueRefusal("line(" + far + ")", () -> x.line(far));
        }
    }

    private static void promise13Look() {
        ShoreFields x = shore(2);
        x.wall(0, 100);
        x.wave(9, 0);
        x.weeks(1);
        due("look(0, 0)", x.look(0, 0), 1009);
        due("look(0, 1)", x.look(0, 1), 27);
        due("look(0, 2)", x.look(0, 2), 36);
        due("look(1, 0)", x.look(1, 0), 937);
        due("look(1, 1)", x.look(1, 1), 27);
        due("look(1, 2)", x.look(1, 2), 0);
        due("look(0, 3)", x.look(0, 3), -1);
        due("look(0, -1)", x.look(0, -1), -1);
        due("look(2, 0)", x.look(2, 0), -1);
        due("look(-1, 0)", x.look(-1, 0), -1);
        for (int far : FAR) {
            due("look(" + far + ", 0)", x.look(far, 0), -1);
            due("look(0, " + far + ")", x.look(0, far), -1);
        }
        // scour is summed, at the end where the waves go out too
        ShoreFields y = shore(2);
        y.wall(1, 100);
        y.groyne(1, 999, 0);
        y.wave(5, 0);
        y.wave(5, 0);
        y.weeks(2);
        due("look(1, 2)", y.look(1, 2), 40);
    }

    private static void promise14Border() {
        ShoreFields x = shore(3);
        x.groyne(1, 77, 66);
        x.mouth(2, 55);
        int[][] want = {{0, -1, -1, 0}, {1, 77, 66, 0}, {2, 55, 0, 0}, {0, -1, -1, 0}};
        for (int border = 0; border <= 3; border++) {
            for (int what = 0; what <= 3; what++) {
                due("border(" + border + ", " + what + ")", x.border(border, what), want[border][what]);
            }
            due("border(b, 4)", x.border(border, 4), -1);
            due("border(b, -1)", x.border(border, -1), -1);
        }
        for (int far : FAR) {
            due("border(" + far + ", 0)", x.border(far, 0), -1);
            due("border(" + far + ", 3)", x.border(far, 3), -100000);
            due("border(1, " + far + ")", x.border(1, far), -1);
            due("border(far, far)", x.border(far, far), -1);
        }
        due("border(4, 1)", x.border(4, 1), -1);
        due("border(-1, 2)", x.border(-1, 2), -1);
        due("border(4, 3)", x.border(4, 3), -100000);
        due("border(-1, 3)", x.border(-1, 3), -100000);
        x.wave(5, 1);
        x.wave(5, 0);
        x.wave(5, 2);
        x.weeks(1);
        duePassed(x, -20, -20, -20, -20);
        due("border(2, 2)", x.border(2, 2), 11);
        x.weeks(2);
        duePassed(x, 0, 0, 0, 0);
        due("border(2, 2)", x.border(2, 2) > 11, true);
    }

    private static ShoreFields behindMouth() {
        // the groyne starves field 1, so that only without it sand reaches the bar at border 2
        ShoreFields x = shore(3);
        x.sand(1, 0);
        x.sand(2, 1002);
        x.groyne(1, 999, 0);
        x.mouth(2, 100);
        x.wave(6, 0);
        x.wave(6, 0);
        x.weeks(2);
        due("dredge(2, 9999, 2)", x.dredge(2, 9999, 2), 0);
        return x;
    }

    private static void promise15Without() {
        ShoreFields x = shore(4);
        x.groyne(1, 300, 0);
        x.groyne(3, 300, 0);
        due("without(2, 0) at the begin", x.without(2, 0), 100);
        x.wave(6, 0);
        x.wave(6, 0);
        x.weeks(1);
        dueSands(x, 1024, 976, 1024, 976);
        due("without(0, 1)", x.without(0, 1), 97);
        due("without(2, 0)", x.without(2, 0), 100);
        due("without(2, 1)", x.without(2, 1), 100);
        due("without(2, 3)", x.without(2, 3), 97);
        due("without(10, 3)", x.without(10, 3), 100);
        for (int set : new int[] {1, 4, 16, 6, 1 << 31, -1}) {
            due("without(" + set + ", 0)", x.without(set, 0), -1);
        }
        due("without(2, 4)", x.without(2, 4), -1);
        due("without(2, -1)", x.without(2, -1), -1);
        for (int far : FAR) {
            due("without(0, " + far + ")", x.without(0, far), -1);
            due("without(" + far + ", 0)", x.without(far, 0), -1);
        }
        dueSands(x, 1024, 976, 1024, 976);
        due("border(1, 0)", x.border(1, 0), 1);

        ShoreFields y = behindMouth();
        due("line(2)", y.line(2), 95);
        due("without(0, 2)", y.without(0, 2), 95);
        due("without(2, 2) with what is dredged then", y.without(2, 2), 96);

        ShoreFields z = shore(2);
        z.mouth(1, 100);
        z.wave(9, 0);
        z.wave(0, 2);
        z.weeks(1);
        due("dredge(1, 9999, 1)", z.dredge(1, 9999, 1), 36);
        due("without(0, 1) dredged", z.without(0, 1), 97);
        z.weeks(1);
        due("without(0, 1) is the line", z.without(0, 1), z.line(1));
    }

    private static void promise16Share() {
        ShoreFields x = new ShoreFields();
        for (int border = 1; border <= 5; border++) {
            x.groyne(border, 90 + 5 * border, 10 * border);
            x.sand(border, 900 + 37 * border);
        }
        for (int week = 0; week < 12; week++) {
            x.wave(3 + week % 5, week % 3);
        }
        x.weeks(12);
        int set = 2 | 4 | 16 | 32;
        for (int field = 0; field < 6; field++) {
            int sum = 0;
            for (int border : new int[] {1, 2, 4, 5}) {
                sum += x.share(border, set, field);
            }
            due("all shares", sum, 24L * (x.without(set, field) - x.line(field)));
            due("share alone", x.share(3, 8, field), x.without(8, field) - x.line(field));
        }
        dueRefusal("share of 5", () -> x.share(1, 62, 0));
        dueRefusal("not of the set", () -> x.share(3, set, 0));
        dueRefusal("not of the empty set", () -> x.share(1, 0, 0));
        dueRefusal("no groyne at 0", () -> x.share(1, 3, 0));
        dueRefusal("no groyne at 6", () -> x.share(1, 66, 0));
        dueRefusal("no such field", () -> x.share(1, 2, 6));
        dueRefusal("no such field", () -> x.share(1, 2, -1));
        for (int far : FAR) {
            dueRefusal("share(" + far + ", 2, 0)", () -> x.share(far, 2, 0));
            dueRefusal("share(1, " + far + ", 0)", () -> x.share(1, far, 0));
            dueRefusal("share(1, 2, " + far + ")", () -> x.share(1, 2, far));
        }
        // two dams in a row: field 1 gains by the upper one and loses by the lower one
        ShoreFields y = shore(3);
        y.groyne(1, 300, 0);
        y.groyne(2, 300, 0);
        y.wave(6, 0);
        y.weeks(1);
        due("share(1, 6, 1)", y.share(1, 6, 1), (102 - 100) + (100 - 97));
        due("share(2, 6, 1)", y.share(2, 6, 1), (97 - 100) + (100 - 102));
    }

    private static void promise17Work() {
        ShoreFields x = shore(3);
        x.groyne(1, 10, 10);
        x.mouth(2, 10);
        int[][] others = {
            {-1, 0, 1, 1}, {2, 0, 1, 1}, {0, -1, 1, 1}, {0, 3, 1, 1}, {0, 0, 0, 1}, {0, 0, 10000, 1},
            {0, 0, 1, 0}, {0, 0, 1, 1000}, {0, 0, -1, 1}, {0, 0, 1, -1}, {1, 0, 1, 1}, {1, 3, 1, 1},
            {1, 2, 1, 1}, {1, 1, 0, 1}, {1, 1, 1000, 1}, {1, 1, 1, 0}, {1, 1, 1, 1000}};
        for (int[] a : others) {
            due("work(" + a[0] + ", " + a[1] + ", " + a[2] + ", " + a[3] + ")", x.work(a[0], a[1], a[2], a[3]), -1);
        }
        for (int far : FAR) {
            due("work(far, ..)", x.work(far, 0, 1, 1), -1);
            due("work(0, far, ..)", x.work(0, far, 1, 1), -1);
            due("work(1, far, ..)", x.work(1, far, 1, 1), -1);
        }
        for (int far : BEYOND) {
            due("work(0, 0, far, 1)", x.work(0, 0, far, 1), -1);
            due("work(1, 1, far, 1)", x.work(1, 1, far, 1), -1);
            due("work(0, 0, 1, far)", x.work(0, 0, 1, far), -1);
        }
        due("count(3)", x.count(3), 0);
        due("work(0, 0, 1, 1)", x.work(0, 0, 1, 1), 0);
        due("work(0, 2, 9999, 999)", x.work(0, 2, 9999, 999), 1);
        due("work(1, 1, 1, 1)", x.work(1, 1, 1, 1), 2);
        due("work(1, 1, 999, 999)", x.work(1, 1, 999, 999), 3);
        x.wave(3, 2);
        x.weeks(1);
        due("work behind a week", x.work(0, 1, 5, 5), 4);
        due("work 5", x.work(0, 1, 5, 5), 5);
        due("work 6", x.work(0, 1, 5, 5), -1);
        due("count(3)", x.count(3), 6);
        dueSands(x, 1000, 1000, 1000);
    }

    private static void promise18Mark() {
        ShoreFields x = shore(2);
        due("mark(0, 0)", x.mark(0, 0), true);
        due("mark(1, 9999)", x.mark(1, 9999), true);
        due("mark(2, 1)", x.mark(2, 1), false);
        due("mark(-1, 1)", x.mark(-1, 1), false);
        due("mark(0, -1)", x.mark(0, -1), false);
        due("mark(0, 10000)", x.mark(0, 10000), false);
        for (int far : FAR) {
            due("mark(" + far + ", 1)", x.mark(far, 1), false);
        }
        for (int beyond : BEYOND) {
            due("mark(0, " + beyond + ")", x.mark(0, beyond), false);
        }
        due("works() of no weeks", x.works(), 0);
        x.wave(3, 2);
        x.weeks(1);
        due("works()", x.works(), -1);
        due("mark behind a week", x.mark(1, 100), true);
        due("works() at the mark", x.works(), 0);
        due("mark(1, 101)", x.mark(1, 101), true);
        due("works() below the mark", x.works(), -1);
    }

    private static void promise19Works() {
        ShoreFields x = shore(2);
        x.mark(0, 102);
        x.mark(1, 101);
        x.work(0, 0, 10, 3);
        x.work(0, 0, 20, 9);
        x.work(0, 1, 10, 4);
        x.work(0, 0, 10, 5);
        x.work(0, 0, 20, 8);
        due("works() ahead of all waves", x.works(), 0);
        x.wave(3, 2);
        // the works 0, 2, 3 and the works 2, 4 both cost 12
        due("works()", x.works(), 13);
        x.mark(0, 103);
        due("works() for 103", x.works(), 1 | 4 | 16);
        x.mark(0, 108);
        due("works() for too much", x.works(), -1);

        worksOnGroynes();
        worksThroughAllWeeks();
    }

    private static void worksOnGroynes() {
        ShoreFields x = shore(2);
        x.groyne(1, 50, 0);
        x.wave(6, 0);
        x.mark(0, 101);
        due("work(1, 1, 200, 5)", x.work(1, 1, 200, 5), 0);
        due("work(1, 1, 60, 1)", x.work(1, 1, 60, 1), 1);
        due("works()", x.works(), 1);
        due("work(1, 1, 101, 2)", x.work(1, 1, 101, 2), 2);
        due("works()", x.works(), 4);
        x.groyne(1, 0, 0);
        due("works() where no groyne is any more", x.works(), -1);
        x.mouth(1, 100);
        due("works() at a mouth", x.works(), -1);

        // either length alone costs as much: only the one that the line of 100 reaches lets sand round
        ShoreFields y = shore(2);
        y.groyne(1, 999, 0);
        y.wave(6, 0);
        y.mark(1, 100);
        due("work(1, 1, 150, 3)", y.work(1, 1, 150, 3), 0);
        due("work(1, 1, 100, 3)", y.work(1, 1, 100, 3), 1);
        due("works()", y.works(), 2);
    }

    private static void worksThroughAllWeeks() {
        // the line dips behind the second week alone, and comes back
        ShoreFields x = shore(2);
        x.wave(6, 2);
        x.wave(9, 2);
        for (int i = 0; i < 20; i++) {
            x.wave(0, 2);
        }
        x.mark(0, 100);
        due("work(0, 0, 26, 1)", x.work(0, 0, 26, 1), 0);
        due("works() of 26", x.works(), -1);
        due("work(0, 0, 27, 2)", x.work(0, 0, 27, 2), 1);
        due("works() of 27", x.works(), 2);
        x.weeks(1);
        due("works() of weeks to come", x.works(), 2);

        // brought sand is lost above 99999, so the storm's 27 are missing
        ShoreFields y = shore(2);
        y.sand(0, 99990);
        y.wave(9, 2);
        y.work(0, 0, 9999, 1);
        y.mark(0, 9997);
        due("works() of a full field", y.works(), 1);
        y.mark(0, 9998);
        due("works() of a field over full", y.works(), -1);

        // what is dredged behind a week counts for that week
        ShoreFields z = shore(2);
        z.mouth(1, 100);
        z.wave(5, 0);
        z.weeks(1);
        z.mark(1, 100);
        due("works() undredged", z.works(), -1);
        due("dredge(1, 20, 1)", z.dredge(1, 20, 1), 20);
        due("works() dredged", z.works(), 0);
    }

    private static void promise20Survey() {
        ShoreFields x = shore(2);
        int[][] others = {
            {2, 1, 1, 1}, {-1, 1, 1, 1}, {0, 0, 1, 1}, {0, 121, 1, 1}, {0, -1, 1, 1},
            {0, 1, -1, 1}, {0, 1, 0, 10000}, {0, 1, 10000, 10000}, {0, 1, 2, 1}, {0, 1, 0, -1}};
        for (int[] a : others) {
            due("survey(" + a[0] + ", " + a[1] + ", " + a[2] + ", " + a[3] + ")", x.survey(a[0], a[1], a[2], a[3]), -1);
        }
        for (int far : BEYOND) {
            due("survey(far, ..)", x.survey(far, 1, 1, 1), -1);
            due("survey(0, far, ..)", x.survey(0, far, 1, 1), -1);
            due("survey(0, 1, far, 1)", x.survey(0, 1, far, 1), -1);
            due("survey(0, 1, 1, far)", x.survey(0, 1, 1, far), -1);
        }
        due("count(4)", x.count(4), 0);
        due("survey(0, 1, 0, 9999)", x.survey(0, 1, 0, 9999), 1);
        due("survey(1, 120, 5, 5)", x.survey(1, 120, 5, 5), 2);
        x.wave(3, 2);
        x.weeks(1);
        for (int i = 3; i <= 20; i++) {
            due("survey", x.survey(0, 1, 100, 100), i);
        }
        due("survey 21", x.survey(0, 1, 100, 100), -1);
        due("count(4)", x.count(4), 20);
    }

    private static void promise21Fits() {
        ShoreFields x = shore(2);
        x.feed(0, 0);
        x.survey(0, 2, 95, 97);
        due("fits() of a week untold", x.fits(), 511);
        x.wave(4, 0);
        due("fits() of a week untold", x.fits(), 511);
        x.wave(4, 0);
        // behind week 1 field 0 has 1000 - 4K; then 4K more, less the slope of its line (cut to 4d/3)
        int want = 0;
        for (int k = 1; k <= 9; k++) {
            int slope = (1000 - 4 * k) / 10 - 100;
            int sand = 1000 - 4 * k - (4 * k + 4 * slope / 3);
            if (sand / 10 >= 95 && sand / 10 <= 97) {
                want |= 1 << (k - 1);
            }
        }
        due("fits()", x.fits(), want);
        due("some fit, some do not", want != 0 && want != 511, true);
        x.weeks(1);
        due("fits() of weeks to come", x.fits(), want);
        x.survey(0, 1, 0, 0);
        due("fits() of none", x.fits(), 0);
        due("look(0, 0) left alone", x.look(0, 0), 984);

        // what is dredged behind the week counts, by what the other K leave in the bar
        ShoreFields y = shore(2);
        y.mouth(1, 100);
        y.wave(5, 0);
        y.weeks(1);
        due("dredge(1, 30, 0)", y.dredge(1, 30, 0), 20);
        y.survey(0, 1, 103, 103);
        due("fits() dredged", y.fits(), 511 & ~31);
    }

    private static void promise22Count() {
        ShoreFields x = shore(3);
        x.mouth(1, 50);
        x.wave(9, 0);
        x.wave(9, 0);
        x.weeks(1);
        x.dredge(1, 1, 0);
        x.work(0, 0, 1, 1);
        x.work(0, 0, 1, 1);
        x.work(0, 0, 1, 1);
        for (int i = 0; i < 4; i++) {
            x.survey(0, 1, 1, 1);
        }
        int[] want = {3, 2, 1, 3, 4, 1, 3000};
        for (int what = 0; what <= 6; what++) {
            due("count(" + what + ")", x.count(what), want[what]);
        }
        due("sand out at sea", x.look(0, 1) + x.look(1, 1) + x.look(2, 1), 81);
        due("sand in the bar", x.border(1, 2), 17);
        due("count(7)", x.count(7), -1);
        due("count(-1)", x.count(-1), -1);
        for (int far : FAR) {
            due("count(" + far + ")", x.count(far), -1);
        }
    }

    public static void main(String[] args) {
        Runnable[] promises = {
            PromisesTest::promise1NewObject, PromisesTest::promise2Fields, PromisesTest::promise3Sand,
            PromisesTest::promise4Groyne, PromisesTest::promise5Mouth, PromisesTest::promise6Wall,
            PromisesTest::promise7Feed, PromisesTest::promise8Number, PromisesTest::promise9Wave,
            PromisesTest::promise10Weeks, PromisesTest::promise11Dredge, PromisesTest::promise12Line,
            PromisesTest::promise13Look, PromisesTest::promise14Border, PromisesTest::promise15Without,
            PromisesTest::promise16Share, PromisesTest::promise17Work, PromisesTest::promise18Mark,
            PromisesTest::promise19Works, PromisesTest::promise20Survey, PromisesTest::promise21Fits,
            PromisesTest::promise22Count};
        for (Runnable one : promises) {
            promise++;
            one.run();
        }
        System.out.println(wrong == 0 ? "all answers are as due" : wrong + " answers are not as due");
        if (wrong != 0) {
            System.exit(1);
        }
    }
}
