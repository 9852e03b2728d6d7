import java.util.Arrays;
import java.util.NoSuchElementException;

/** A row of beaches under the waves of weeks; the numbered promises of the document say what each call does. */
public final class ShoreFields {
    public static final int NONE = -1;

    private static final int NO_SUCH_PASSAGE = -100000;

    private static final int LEAST_FIELDS = 2;
    private static final int MOST_FIELDS = 12;
    private static final int MOST_BORDERS = MOST_FIELDS + 1;
    private static final int MOST_SAND = 99999;
    private static final int MOST_LENGTH = 999;
    private static final int MOST_WALL = 999;
    private static final int MOST_FEED = 200;
    private static final int MOST_NUMBER = 9;
    private static final int MOST_HEIGHT = 9;
    private static final int MOST_LINE = 9999;
    private static final int MOST_UNITS = 9999;
    private static final int MOST_PRICE = 999;
    private static final int MOST_WEEKS = 120;
    private static final int MOST_DREDGINGS = 20;
    private static final int MOST_WORKS = 6;
    private static final int MOST_SURVEYS = 20;
    private static final int MOST_SHARERS = 4;

    private static final int UNITS_OF_A_LINE = 10;
    private static final int STORM_HEIGHT = 7;
    private static final int CALM_HEIGHT = 2;

    private static final int FROM_LEFT = 0;
    private static final int STRAIGHT = 2;

    private static final int OPEN = 0;
    private static final int GROYNE = 1;
    private static final int MOUTH = 2;

    private static final int BRING_SAND = 0;
    private static final int CHANGE_LENGTH = 1;

    private final Begin begin;
    private final Begin trial;
    private final Shore now;
    private final Shore again;
    private final Weather weather;
    private final Dredgings dredgings;
    private final WorkList workList;
    private final SurveyList surveyList;
    private final int[] marks;
    private int weeksGone;
    private boolean anythingTold;

    public ShoreFields() {
        begin = new Begin();
        trial = new Begin();
        now = new Shore();
        again = new Shore();
        weather = new Weather();
        dredgings = new Dredgings();
        workList = new WorkList();
        surveyList = new SurveyList();
        marks = new int[MOST_FIELDS];
        weeksGone = 0;
        anythingTold = false;
        now.startFrom(begin);
    }

    public boolean fields(int n) {
        if (!isWithin(n, LEAST_FIELDS, MOST_FIELDS) || anythingTold) {
            return false;
        }
        begin.fieldCount = n;
        return true;
    }

    public boolean sand(int field, int units) {
        if (weeksGone > 0 || !begin.hasField(field) || !isWithin(units, 0, MOST_SAND)) {
            return false;
        }
        begin.sandOf[field] = units;
        takeInBegin();
        return true;
    }

    public boolean groyne(int border, int length, int leak) {
        if (weeksGone > 0 || !begin.liesBetweenFields(border)) {
            return false;
        }
        if (!isWithin(length, 0, MOST_LENGTH) || !isWithin(leak, 0, 100)) {
            return false;
        }
        begin.build(border, length == 0 ? OPEN : GROYNE, length, leak);
        takeInBegin();
        return true;
    }

    public boolean mouth(int border, int keeps) {
        if (weeksGone > 0 || !begin.liesBetweenFields(border) || !isWithin(keeps, 0, 100)) {
            return false;
        }
        begin.build(border, MOUTH, keeps, 0);
        takeInBegin();
        return true;
    }

    public boolean wall(int field, int mark) {
        if (weeksGone > 0 || !begin.hasField(field) || !isWithin(mark, 0, MOST_WALL)) {
            return false;
        }
        begin.wallOf[field] = mark;
        takeInBegin();
        return true;
    }

    public boolean feed(int end, int f) {
        if (weeksGone > 0 || !isWithin(end, 0, 1) || !isWithin(f, 0, MOST_FEED)) {
            return false;
        }
        begin.feedOf[end] = f;
        takeInBegin();
        return true;
    }

    public boolean number(int k) {
        if (weeksGone > 0 || !isWithin(k, 1, MOST_NUMBER)) {
            return false;
        }
        begin.shoreNumber = k;
        takeInBegin();
        return true;
    }

    public int wave(int height, int side) {
        if (!isWithin(height, 0, MOST_HEIGHT) || !isWithin(side, 0, STRAIGHT) || weather.size >= MOST_WEEKS) {
            return NONE;
        }
        weather.add(height, side);
        anythingTold = true;
        return weather.size;
    }

    public int weeks(int n) {
        if (!isWithin(n, 0, MOST_WEEKS) || n > weather.size - weeksGone) {
            return NONE;
        }
        int last = weeksGone + n;
        for (int week = weeksGone; week < last; week++) {
            now.goThrough(begin, weather.heights[week], weather.sides[week]);
        }
        weeksGone = last;
        return weeksGone;
    }

    public int dredge(int border, int units, int field) {
        if (!begin.hasAt(border, MOUTH) || !begin.hasField(field)) {
            return NONE;
        }
        if (!isWithin(units, 1, MOST_UNITS) || dredgings.size >= MOST_DREDGINGS) {
            return NONE;
        }
        dredgings.add(border, units, field, weeksGone);
        return now.bringFromBar(border, units, field);
    }

    public int line(int field) throws NoSuchElementException {
        if (!begin.hasField(field)) {
            throw new NoSuchElementException("no such field");
        }
        return now.lineOf(field);
    }

    public int look(int field, int what) {
        if (!begin.hasField(field)) {
            return NONE;
        }
        switch (what) {
            case 0:
                return now.sandOf[field];
            case 1:
                return now.seaOf[field];
            case 2:
                return now.scourOf[field];
            default:
                return NONE;
        }
    }

    public int border(int border, int what) {
        if (!begin.hasBorder(border)) {
            return what == 3 ? NO_SUCH_PASSAGE : NONE;
        }
        int kind = begin.kindAt[border];
        switch (what) {
            case 0:
                return kind;
            case 1:
                return kind == OPEN ? NONE : begin.sizeAt[border];
            case 2:
                if (kind == MOUTH) {
                    return now.barAt[border];
                }
                return kind == GROYNE ? begin.leakAt[border] : NONE;
            case 3:
                return now.passedAt[border];
            default:
                return NONE;
        }
    }

    public int without(int set, int field) {
        if (!begin.hasField(field) || !begin.hasGroynes(set)) {
            return NONE;
        }
        return lineLeavingAway(set, field);
    }

    public int share(int border, int set, int field) throws NoSuchElementException {
        if (!begin.hasField(field) || !begin.hasGroynes(set) || Integer.bitCount(set) > MOST_SHARERS) {
            throw new NoSuchElementException("no such field or set of groynes");
        }
        if (!begin.hasBorder(border) || (set & 1 << border) == 0) {
            throw new NoSuchElementException("the groyne is not of the set");
        }
        int own = 1 << border;
        int others = set & ~own;
        int othersCount = Integer.bitCount(others);
        int sum = 0;
        for (int ahead = 0; ahead <= others; ahead++) {
            if ((ahead & others) == ahead) {
                int aheadCount = Integer.bitCount(ahead);
                int orders = factorial(aheadCount) * factorial(othersCount - aheadCount);
                sum += orders * (lineLeavingAway(ahead | own, field) - lineLeavingAway(ahead, field));
            }
        }
        return sum;
    }

    public int work(int kind, int at, int n, int price) {
        if (!isWithin(price, 1, MOST_PRICE) || workList.size >= MOST_WORKS) {
            return NONE;
        }
        boolean brings = kind == BRING_SAND && begin.hasField(at) && isWithin(n, 1, MOST_UNITS);
        boolean changes = kind == CHANGE_LENGTH && begin.hasAt(at, GROYNE) && isWithin(n, 1, MOST_LENGTH);
        if (!brings && !changes) {
            return NONE;
        }
        workList.add(kind, at, n, price);
        anythingTold = true;
        return workList.size - 1;
    }

    public boolean mark(int field, int line) {
        if (!begin.hasField(field) || !isWithin(line, 0, MOST_LINE)) {
            return false;
        }
        marks[field] = line;
        anythingTold = true;
        return true;
    }

    public int works() {
        int cheapest = NONE;
        int leastPrice = 0;
        int sets = 1 << workList.size;
        for (int set = 0; set < sets; set++) {
            int price = workList.priceOf(set);
            // sets come in the order of their numbers, so an equal price never displaces an earlier one
            if ((cheapest == NONE || price < leastPrice) && keepsMarks(set)) {
                cheapest = set;
                leastPrice = price;
            }
        }
        return cheapest;
    }

    public int survey(int field, int week, int from, int to) {
        if (!begin.hasField(field) || !isWithin(week, 1, MOST_WEEKS) || surveyList.size >= MOST_SURVEYS) {
            return NONE;
        }
        if (!isWithin(from, 0, MOST_LINE) || !isWithin(to, from, MOST_LINE)) {
            return NONE;
        }
        surveyList.add(field, week, from, to);
        anythingTold = true;
        return surveyList.size;
    }

    public int fits() {
        int fitting = 0;
        for (int k = 1; k <= MOST_NUMBER; k++) {
            if (agreesWithSurveys(k)) {
                fitting |= 1 << (k - 1);
            }
        }
        return fitting;
    }

    public int count(int what) {
        switch (what) {
            case 0:
                return begin.fieldCount;
            case 1:
                return weather.size;
            case 2:
                return weeksGone;
            case 3:
                return workList.size;
            case 4:
                return surveyList.size;
            case 5:
                return dredgings.size;
            case 6:
                return now.sandInAll(begin.fieldCount);
            default:
                return NONE;
        }
    }

    private static boolean isWithin(int value, int least, int most) {
        return value >= least && value <= most;
    }

    private static int factorial(int n) {
        int product = 1;
        for (int factor = 2; factor <= n; factor++) {
            product *= factor;
        }
        return product;
    }

    /** The begin is told only while no week has gone by, so the shore of now is still the begin itself. */
    private void takeInBegin() {
        anythingTold = true;
        now.startFrom(begin);
    }

    private int lineLeavingAway(int groynes, int field) {
        trial.copyFrom(begin);
        trial.leaveAway(groynes);
        again.startFrom(trial);
        for (int week = 0; week < weeksGone; week++) {
            goThroughAgain(week);
        }
        return again.lineOf(field);
    }

    private boolean keepsMarks(int set) {
        trial.copyFrom(begin);
        workList.applyTo(trial, set);
        again.startFrom(trial);
        for (int week = 0; week < weather.size; week++) {
            goThroughAgain(week);
            for (int field = 0; field < trial.fieldCount; field++) {
                if (again.lineOf(field) < marks[field]) {
                    return false;
                }
            }
        }
        return true;
    }

    private boolean agreesWithSurveys(int k) {
        trial.copyFrom(begin);
        trial.shoreNumber = k;
        again.startFrom(trial);
        for (int week = 0; week < weather.size; week++) {
            goThroughAgain(week);
            if (!surveyList.agreeBehind(week + 1, again)) {
                return false;
            }
        }
        return true;
    }

    private void goThroughAgain(int week) {
        again.goThrough(trial, weather.heights[week], weather.sides[week]);
        dredgings.redoBehind(week + 1, again);
    }

    /** What the shore is ahead of its first week; a trial is a copy that may be altered. */
    private static final class Begin {
        int fieldCount = 6;
        int shoreNumber = 4;
        final int[] sandOf = new int[MOST_FIELDS];
        final int[] wallOf = new int[MOST_FIELDS];
        final int[] feedOf = new int[2];
        final int[] kindAt = new int[MOST_BORDERS];
        /** A groyne's length, or how many of 100 a mouth keeps. */
        final int[] sizeAt = new int[MOST_BORDERS];
        final int[] leakAt = new int[MOST_BORDERS];

        Begin() {
            Arrays.fill(sandOf, 1000);
            Arrays.fill(feedOf, 100);
        }

        boolean hasField(int field) {
            return field >= 0 && field < fieldCount;
        }

        boolean hasBorder(int border) {
            return border >= 0 && border <= fieldCount;
        }

        boolean liesBetweenFields(int border) {
            return border >= 1 && border < fieldCount;
        }

        boolean hasAt(int border, int kind) {
            return liesBetweenFields(border) && kindAt[border] == kind;
        }

        boolean hasGroynes(int set) {
            int missing = set;
            for (int border = 1; border < fieldCount; border++) {
                if (kindAt[border] == GROYNE) {
                    missing &= ~(1 << border);
                }
            }
            return missing == 0;
        }

        void build(int border, int kind, int size, int leak) {
            kindAt[border] = kind;
            sizeAt[border] = size;
            leakAt[border] = leak;
        }

        void leaveAway(int groynes) {
            for (int border = 1; border < fieldCount; border++) {
                if ((groynes & 1 << border) != 0) {
                    build(border, OPEN, 0, 0);
                }
            }
        }

        void copyFrom(Begin other) {
            fieldCount = other.fieldCount;
            shoreNumber = other.shoreNumber;
            System.arraycopy(other.sandOf, 0, sandOf, 0, MOST_FIELDS);
            System.arraycopy(other.wallOf, 0, wallOf, 0, MOST_FIELDS);
            System.arraycopy(other.feedOf, 0, feedOf, 0, 2);
            System.arraycopy(other.kindAt, 0, kindAt, 0, MOST_BORDERS);
            System.arraycopy(other.sizeAt, 0, sizeAt, 0, MOST_BORDERS);
            System.arraycopy(other.leakAt, 0, leakAt, 0, MOST_BORDERS);
        }
    }

    /** The shore as the weeks leave it. */
    private static final class Shore {
        final int[] sandOf = new int[MOST_FIELDS];
        final int[] seaOf = new int[MOST_FIELDS];
        final int[] scourOf = new int[MOST_FIELDS];
        final int[] barAt = new int[MOST_BORDERS];
        /** What passed in the latest week, above 0 from left to right. */
        final int[] passedAt = new int[MOST_BORDERS];
        /** Kept apart from the sand until all has passed, because all passes by the sand at the week's begin. */
        private final int[] changeOf = new int[MOST_FIELDS];

        void startFrom(Begin begin) {
            System.arraycopy(begin.sandOf, 0, sandOf, 0, MOST_FIELDS);
            Arrays.fill(seaOf, 0);
            Arrays.fill(scourOf, 0);
            Arrays.fill(barAt, 0);
            Arrays.fill(passedAt, 0);
        }

        int lineOf(int field) {
            return sandOf[field] / UNITS_OF_A_LINE;
        }

        int sandInAll(int fieldCount) {
            int sum = 0;
            for (int field = 0; field < fieldCount; field++) {
                sum += sandOf[field] + seaOf[field] + barAt[field];
            }
            return sum;
        }

        int bringFromBar(int border, int units, int field) {
            int brought = Math.min(units, barAt[border]);
            barAt[border] -= brought;
            sandOf[field] = Math.min(sandOf[field] + brought, MOST_SAND);
            return brought;
        }

        void goThrough(Begin begin, int height, int side) {
            Arrays.fill(passedAt, 0);
            if (side != STRAIGHT) {
                Arrays.fill(changeOf, 0);
                comeInAtEnd(begin, height, side);
                for (int border = 1; border < begin.fieldCount; border++) {
                    passAt(begin, border, height, side);
                }
                goOutAtEnd(begin, height, side);
                addChanges(begin);
            }
            if (height >= STORM_HEIGHT) {
                takeOutToSea(begin, 3 * height);
            } else if (height <= CALM_HEIGHT) {
                bringBackFromSea(begin);
            }
        }

        private void comeInAtEnd(Begin begin, int height, int side) {
            boolean fromLeft = side == FROM_LEFT;
            int units = begin.shoreNumber * height * begin.feedOf[fromLeft ? 0 : 1] / 100;
            changeOf[fromLeft ? 0 : begin.fieldCount - 1] += units;
            passedAt[fromLeft ? 0 : begin.fieldCount] = fromLeft ? units : -units;
        }

        private void goOutAtEnd(Begin begin, int height, int side) {
            boolean fromLeft = side == FROM_LEFT;
            int units = takeFrom(begin, fromLeft ? begin.fieldCount - 1 : 0, begin.shoreNumber * height);
            passedAt[fromLeft ? begin.fieldCount : 0] = fromLeft ? units : -units;
        }

        private void passAt(Begin begin, int border, int height, int side) {
            boolean fromLeft = side == FROM_LEFT;
            int from = fromLeft ? border - 1 : border;
            int to = fromLeft ? border : border - 1;
            int driven = begin.shoreNumber * height + height * slope(from, to) / 3;
            driven = Math.max(driven, 0);
            if (begin.kindAt[border] == GROYNE && lineOf(from) < begin.sizeAt[border]) {
                driven = driven * begin.leakAt[border] / 100;
            }
            int units = takeFrom(begin, from, driven);
            int kept = begin.kindAt[border] == MOUTH ? units * begin.sizeAt[border] / 100 : 0;
            barAt[border] += kept;
            changeOf[to] += units - kept;
            passedAt[border] = fromLeft ? units : -units;
        }

        private int slope(int from, int to) {
            int difference = lineOf(from) - lineOf(to);
            return Math.max(-9, Math.min(difference, 9));
        }

        /** Takes what sand and wall let of the wanted units; what only the wall holds back is scour. */
        private int takeFrom(Begin begin, int field, int wanted) {
            int there = Math.min(wanted, sandOf[field]);
            int units = Math.min(there, freeSandOf(begin, field));
            scourOf[field] += there - units;
            changeOf[field] -= units;
            return units;
        }

        private int freeSandOf(Begin begin, int field) {
            int above = sandOf[field] - UNITS_OF_A_LINE * begin.wallOf[field];
            return above > 0 ? above : 0;
        }

        private void addChanges(Begin begin) {
            for (int field = 0; field < begin.fieldCount; field++) {
                sandOf[field] = Math.min(sandOf[field] + changeOf[field], MOST_SAND);
            }
        }

        private void takeOutToSea(Begin begin, int wanted) {
            for (int field = 0; field < begin.fieldCount; field++) {
                int units = Math.min(wanted, freeSandOf(begin, field));
                sandOf[field] -= units;
                seaOf[field] += units;
            }
        }

        private void bringBackFromSea(Begin begin) {
            for (int field = 0; field < begin.fieldCount; field++) {
                int units = (seaOf[field] + 3) / 4;
                seaOf[field] -= units;
                sandOf[field] = Math.min(sandOf[field] + units, MOST_SAND);
            }
        }
    }

    /** The waves of the weeks that are told, in order. */
    private static final class Weather {
        int size = 0;
        final int[] heights = new int[MOST_WEEKS];
        final int[] sides = new int[MOST_WEEKS];

        void add(int height, int side) {
            if (size < MOST_WEEKS) {
                heights[size] = height;
                sides[size] = side;
                size++;
            }
        }
    }

    /** What was dredged, and how many weeks had gone by then. */
    private static final class Dredgings {
        int size = 0;
        private final int[] borders = new int[MOST_DREDGINGS];
        private final int[] units = new int[MOST_DREDGINGS];
        private final int[] fields = new int[MOST_DREDGINGS];
        private final int[] weeks = new int[MOST_DREDGINGS];

        void add(int border, int wanted, int field, int week) {
            if (size < MOST_DREDGINGS) {
                borders[size] = border;
                units[size] = wanted;
                fields[size] = field;
                weeks[size] = week;
                size++;
            }
        }

        /** Dredging ahead of the first week is never done again: the bars are empty there. */
        void redoBehind(int week, Shore shore) {
            for (int i = 0; i < size; i++) {
                if (weeks[i] == week) {
                    shore.bringFromBar(borders[i], units[i], fields[i]);
                }
            }
        }
    }

    /** The works that could be done at the begin. */
    private static final class WorkList {
        int size = 0;
        private final int[] kinds = new int[MOST_WORKS];
        private final int[] places = new int[MOST_WORKS];
        private final int[] amounts = new int[MOST_WORKS];
        private final int[] prices = new int[MOST_WORKS];

        void add(int kind, int place, int amount, int price) {
            if (size < MOST_WORKS) {
                kinds[size] = kind;
                places[size] = place;
                amounts[size] = amount;
                prices[size] = price;
                size++;
            }
        }

        int priceOf(int set) {
            int sum = 0;
            for (int i = 0; i < size; i++) {
                if ((set & 1 << i) != 0) {
                    sum += prices[i];
                }
            }
            return sum;
        }

        void applyTo(Begin trial, int set) {
            for (int i = 0; i < size; i++) {
                if ((set & 1 << i) != 0) {
                    applyOne(trial, i);
                }
            }
        }

        /** The groyne may have gone since the work was told: then the work does nothing. */
        private void applyOne(Begin trial, int i) {
            int place = places[i];
            if (kinds[i] == BRING_SAND) {
                trial.sandOf[place] = Math.min(trial.sandOf[place] + amounts[i], MOST_SAND);
            } else if (trial.hasAt(place, GROYNE)) {
                trial.sizeAt[place] = amounts[i];
            }
        }
    }

    /** What was measured: between which lines a field lay behind a week. */
    private static final class SurveyList {
        int size = 0;
        private final int[] fields = new int[MOST_SURVEYS];
        private final int[] weeks = new int[MOST_SURVEYS];
        private final int[] leastLines = new int[MOST_SURVEYS];
        private final int[] mostLines = new int[MOST_SURVEYS];

        void add(int field, int week, int leastLine, int mostLine) {
            if (size < MOST_SURVEYS) {
                fields[size] = field;
                weeks[size] = week;
                leastLines[size] = leastLine;
                mostLines[size] = mostLine;
                size++;
            }
        }

        boolean agreeBehind(int week, Shore shore) {
            for (int i = 0; i < size; i++) {
                if (weeks[i] == week) {
                    int line = shore.lineOf(fields[i]);
                    if (line < leastLines[i] || line > mostLines[i]) {
                        return false;
                    }
                }
            }
            return true;
        }
    }
}
