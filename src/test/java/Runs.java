import java.util.ArrayList;
import java.util.Arrays;
import java.util.List;
import java.util.NoSuchElementException;
import java.util.Set;

/**
 * Runs of calls on a new object, written as text: "fields 2; 3*wave 4 0; weeks 1; look 0 0 = 1000; sand 0 5 = false".
 *
 * <p>Behind = stands what is due (a number, true, false, none or throws), behind != what must not be answered; a
 * telling call with neither must be taken. Each run is made once more without its refused and its asking calls, and
 * both objects must answer a long row of later calls alike: what is refused or only asked changes nothing, nor does
 * weeks 0.
 */
final class Runs {
    static final int THROWN = Integer.MIN_VALUE;

    private static final int MOST_CALLS = 512;
    private static final Set<String> TOLD_BY_BOOLEAN =
        Set.of("fields", "sand", "groyne", "mouth", "wall", "feed", "number", "mark");
    private static final Set<String> TOLD_BY_NUMBER = Set.of("wave", "weeks", "dredge", "work", "survey");
    private static final String[] LATER = {
        "wave 6 0", "wave 9 1", "wave 1 0", "weeks 3", "dredge 1 7 0", "dredge 2 7 1", "dredge 3 7 0", "dredge 11 7 0",
        "work 0 0 40 3", "work 1 1 120 2", "mark 0 101", "survey 1 1 95 103"};

    private static String sentence = "";
    private static int sentences = 0;
    private static int runs = 0;
    private static int wrong = 0;

    private Runs() {
    }

    /** Makes the runs of one sentence of the document, which is told with every answer that is not as due. */
    static void sentence(String words, Runnable itsRuns) {
        sentence = words;
        int before = runs;
        itsRuns.run();
        sentences++;
        if (runs == before) {
            fault("has no run");
        }
    }

    static void end() {
        System.out.println(sentences + " sentences in " + runs + " runs: "
            + (wrong == 0 ? "all answers are as due" : wrong + " answers are not as due"));
        if (wrong != 0) {
            System.exit(1);
        }
    }

    static void run(String... parts) {
        runs++;
        String text = String.join("; ", parts);
        Told full = new Told();
        Told bare = new Told();
        for (String step : text.split(";")) {
            makeStep(step.trim(), full, bare);
        }
        full.tellLater();
        bare.tellLater();
        if (!full.later.equals(bare.later)) {
            fault(text + "\n    a refused or asking call changed something: later calls answer\n    " + full.later
                + "\n    without it\n    " + bare.later);
        }
    }

    private static void makeStep(String step, Told full, Told bare) {
        boolean equal = !step.contains("!=");
        String[] sides = step.split("!?=");
        String[] callText = sides[0].trim().split("\\*");
        int times = callText.length == 1 ? 1 : Integer.parseInt(callText[0].trim());
        String[] words = callText[callText.length - 1].trim().split(" +");
        int[] a = Arrays.stream(words).skip(1).mapToInt(Integer::parseInt).toArray();
        for (int i = 0; i < times; i++) {
            int got = full.make(words[0], a);
            boolean taken = isTaken(words[0], got);
            if (taken && !step.startsWith("weeks 0")) {
                bare.make(words[0], a);
            }
            if (sides.length == 1 && !taken && isTelling(words[0])) {
                fault(full.calls + " was refused");
            } else if (sides.length > 1 && (got == number(sides[1].trim())) != equal) {
                fault(full.calls + " answered " + got + ", due is" + (equal ? "" : " not") + sides[1]);
            }
        }
    }

    private static int number(String word) {
        switch (word) {
            case "true": return 1;
            case "false": return 0;
            case "none": return -1;
            case "throws": return THROWN;
            default: return Integer.parseInt(word);
        }
    }

    private static boolean isTelling(String call) {
        return TOLD_BY_BOOLEAN.contains(call) || TOLD_BY_NUMBER.contains(call);
    }

    private static boolean isTaken(String call, int got) {
        return TOLD_BY_BOOLEAN.contains(call) && got == 1 || TOLD_BY_NUMBER.contains(call) && got != -1;
    }

    private static void fault(String text) {
        wrong++;
        System.out.println("[" + sentence + "] " + text);
    }

    /** The answer of a call told by its name; a boolean counts 1 or 0. */
    static int answer(ShoreFields x, String call, int... a) {
        try {
            switch (call) {
                case "fields": return x.fields(a[0]) ? 1 : 0;
                case "sand": return x.sand(a[0], a[1]) ? 1 : 0;
                case "groyne": return x.groyne(a[0], a[1], a[2]) ? 1 : 0;
                case "mouth": return x.mouth(a[0], a[1]) ? 1 : 0;
                case "wall": return x.wall(a[0], a[1]) ? 1 : 0;
                case "feed": return x.feed(a[0], a[1]) ? 1 : 0;
                case "number": return x.number(a[0]) ? 1 : 0;
                case "wave": return x.wave(a[0], a[1]);
                case "weeks": return x.weeks(a[0]);
                case "dredge": return x.dredge(a[0], a[1], a[2]);
                case "line": return x.line(a[0]);
                case "look": return x.look(a[0], a[1]);
                case "border": return x.border(a[0], a[1]);
                case "without": return x.without(a[0], a[1]);
                case "share": return x.share(a[0], a[1], a[2]);
                case "work": return x.work(a[0], a[1], a[2], a[3]);
                case "mark": return x.mark(a[0], a[1]) ? 1 : 0;
                case "works": return x.works();
                case "survey": return x.survey(a[0], a[1], a[2], a[3]);
                case "fits": return x.fits();
                case "count": return x.count(a[0]);
                default: throw new IllegalArgumentException("no such call: " + call);
            }
        } catch (NoSuchElementException e) {
            return THROWN;
        }
    }

    /** An object, the calls that were made of it, and what it answers to later ones. */
    private static final class Told {
        final ShoreFields x = new ShoreFields();
        final StringBuilder calls = new StringBuilder();
        final List<Integer> later = new ArrayList<>();
        private int made = 0;

        int make(String call, int... a) {
            made++;
            if (made > MOST_CALLS) {
                throw new IllegalStateException("the document promises nothing behind 512 calls");
            }
            calls.append(calls.length() == 0 ? "" : "; ").append(call);
            for (int one : a) {
                calls.append(' ').append(one);
            }
            return answer(x, call, a);
        }

        void tellLater() {
            keep("fields", 5);
            show();
            ask();
            for (String step : LATER) {
                String[] words = step.split(" ");
                keep(words[0], Arrays.stream(words).skip(1).mapToInt(Integer::parseInt).toArray());
            }
            show();
            ask();
        }

        private int keep(String call, int... a) {
            int got = make(call, a);
            later.add(got);
            return got;
        }

        private void show() {
            int n = 0;
            for (int what = 0; what <= 6; what++) {
                int got = keep("count", what);
                n = what == 0 ? got : n;
            }
            for (int field = 0; field < n; field++) {
                for (int what = 0; what <= 2; what++) {
                    keep("look", field, what);
                }
            }
            for (int border = 0; border <= n; border++) {
                keep("border", border, 3);
                if (border > 0 && border < n && keep("border", border, 0) != 0) {
                    keep("border", border, 1);
                    keep("border", border, 2);
                }
            }
        }

        private void ask() {
            int n = keep("count", 0);
            int set = 0;
            for (int border = 1; border < n; border++) {
                set |= make("border", border, 0) == 1 ? 1 << border : 0;
            }
            keep("works");
            keep("fits");
            for (int field = 0; field < n; field++) {
                keep("without", 0, field);
            }
            keep("without", set, n - 1);
            if (set != 0) {
                keep("share", Integer.numberOfTrailingZeros(set), Integer.lowestOneBit(set), 0);
            }
        }
    }
}
