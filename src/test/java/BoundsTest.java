import java.util.function.IntFunction;

/** Every case of true, false, NONE, -100000 and NoSuchElementException of each promise, on both sides of its bounds. */
public final class BoundsTest {
    /** A groyne, a mouth and a border with nothing; three weeks are told, none went by. */
    private static final String BUILT = "fields 4; groyne 1 150 50; mouth 2 50; 3*wave 5 0";
    private static final String[] BEGIN_CALLS = {"sand 0 5", "groyne 1 5 5", "mouth 1 5", "wall 0 5", "feed 0 5", "number 5"};

    /** Puts the values at # in the call: the last ones that are taken, and the first ones and far ones that are refused. */
    private static void bound(String before, String call, String refusal, int least, int most) {
        boolean asks = call.startsWith("line") || call.startsWith("look") || call.startsWith("border")
            || call.startsWith("count") || call.startsWith("without") || call.startsWith("share");
        for (int taken : new int[] {least, most}) {
            Runs.run(before, call.replace("#", String.valueOf(taken)) + (asks ? " != " + refusal : ""));
        }
        // a shift by 32 or 64 more would be the same shift again
        int[] others = {least - 1, most + 1, least - 32, most + 32, least - 64, most + 64, ~least, Integer.MIN_VALUE,
            Integer.MIN_VALUE + 1, Integer.MAX_VALUE};
        for (int other : others) {
            if (other < least || other > most) {
                Runs.run(before, call.replace("#", String.valueOf(other)) + " = " + refusal);
            }
        }
    }

    /** The same bound for every number of fields; most tells the greatest value by that number. */
    private static void boundByFields(String before, String call, String refusal, int least, IntFunction<Integer> most) {
        for (int n = 2; n <= 12; n++) {
            bound("fields " + n + before, call, refusal, least, most.apply(n));
        }
    }

    private static void fieldBound(String call, String refusal) {
        boundByFields("", call, refusal, 0, n -> n - 1);
    }

    private static void innerBorderBound(String call, String refusal) {
        boundByFields("", call, refusal, 1, n -> n - 1);
    }

    private static void onlyWhileNoWeekWentBy(String call) {
        Runs.run(BUILT, call + " = true");
        Runs.run(BUILT, "weeks 0; weeks 4 = none", call + " = true");
        Runs.run(BUILT, "weeks 1", call + " = false", "weeks 2", call + " = false");
        Runs.run("120*wave 3 2; weeks 120", call + " = false");
    }

    private static void newObject() {
        Runs.run("count 0 = 6; count 1 = 0; count 2 = 0; count 3 = 0; count 4 = 0; count 5 = 0; count 6 = 6000; works = 0; fits = 511");
        for (int field = 0; field < 6; field++) {
            Runs.run("line " + field + " = 100; look " + field + " 0 = 1000; look " + field + " 1 = 0; look " + field + " 2 = 0",
                "without 0 " + field + " = 100; share 1 2 " + field + " = throws; share 1 0 " + field + " = throws");
        }
        for (int border = 0; border <= 6; border++) {
            Runs.run("border " + border + " 0 = 0; border " + border + " 1 = none; border " + border + " 2 = none",
                "border " + border + " 3 = 0; dredge " + border + " 1 0 = none; work 1 " + border + " 5 5 = none",
                "without " + (1 << border) + " 0 = none; share " + border + " " + (1 << border) + " 0 = throws");
        }
        Runs.run("weeks 0 = 0; weeks 1 = none; weeks 120 = none; count 2 = 0; line 6 = throws; look 6 0 = none; border 7 0 = none");
    }

    private static void fieldsBounds() {
        bound("count 0 = 6", "fields #", "false", 2, 12);
        bound("fields 3", "fields #", "false", 2, 12);
        for (int n = 2; n <= 12; n++) {
            Runs.run("fields " + n + " = true; count 0 = " + n + "; count 6 = " + 1000 * n + "; fields 13 = false; count 0 = " + n);
        }
        Runs.run("fields 2; fields 12; fields 6; fields 6; count 0 = 6");
    }

    private static void fieldsOnlyAheadOfAllElse() {
        String[] changing = {"sand 0 5", "groyne 1 5 5", "mouth 1 5", "wall 0 5", "feed 1 5", "number 5", "wave 5 0", "work 0 0 5 5",
            "mark 0 5", "survey 0 5 5 5"};
        for (String call : changing) {
            Runs.run(call, "fields 5 = false; fields 6 = false; count 0 = 6");
            Runs.run("fields 4", call, "fields 5 = false; count 0 = 4");
        }
        String[] idle = {"sand 6 5 = false", "sand 0 -1 = false", "groyne 0 5 5 = false", "groyne 1 1000 5 = false",
            "groyne 1 5 101 = false", "mouth 6 5 = false", "mouth 1 101 = false", "wall 6 5 = false", "wall 0 1000 = false",
            "feed 2 5 = false", "feed 0 201 = false", "number 0 = false", "number 10 = false", "wave 10 0 = none", "wave 0 3 = none",
            "weeks 1 = none", "weeks -1 = none", "weeks 0 = 0", "dredge 1 5 0 = none", "work 0 6 5 5 = none", "work 1 1 5 5 = none",
            "work 0 0 5 0 = none", "mark 6 5 = false", "mark 0 10000 = false", "survey 6 5 5 5 = none", "survey 0 0 5 5 = none",
            "survey 0 5 6 5 = none", "fields 13 = false", "works = 0", "fits = 511", "without 0 0 = 100", "without 2 0 = none",
            "share 1 2 0 = throws", "line 0 = 100", "line 6 = throws", "look 0 0 = 1000", "border 0 0 = 0", "count 0 = 6"};
        for (String call : idle) {
            Runs.run(call, "fields 5 = true; count 0 = 5");
        }
    }

    private static void sandBounds() {
        fieldBound("sand # 5", "false");
        bound(BUILT, "sand # 5", "false", 0, 3);
        bound(BUILT, "sand 3 #", "false", 0, 99999);
        onlyWhileNoWeekWentBy("sand 3 5");
    }

    private static void groyneBounds() {
        innerBorderBound("groyne # 5 5", "false");
        bound(BUILT, "groyne # 5 5", "false", 1, 3);
        bound(BUILT, "groyne # 0 0", "false", 1, 3);
        bound(BUILT, "groyne 1 # 5", "false", 0, 999);
        bound(BUILT, "groyne 3 5 #", "false", 0, 100);
        onlyWhileNoWeekWentBy("groyne 3 5 5");
        onlyWhileNoWeekWentBy("groyne 2 0 0");
    }

    private static void mouthBounds() {
        innerBorderBound("mouth # 5", "false");
        bound(BUILT, "mouth # 5", "false", 1, 3);
        bound(BUILT, "mouth 2 #", "false", 0, 100);
        onlyWhileNoWeekWentBy("mouth 3 5");
    }

    private static void wallBounds() {
        fieldBound("wall # 5", "false");
        bound(BUILT, "wall # 100", "false", 0, 3);
        bound(BUILT, "wall 3 #", "false", 0, 999);
        onlyWhileNoWeekWentBy("wall 3 100");
        onlyWhileNoWeekWentBy("wall 3 0");
    }

    private static void feedBounds() {
        bound(BUILT, "feed # 5", "false", 0, 1);
        bound(BUILT, "feed 0 #", "false", 0, 200);
        bound(BUILT, "feed 1 #", "false", 0, 200);
        onlyWhileNoWeekWentBy("feed 0 5");
        onlyWhileNoWeekWentBy("feed 1 5");
    }

    private static void numberBounds() {
        bound(BUILT, "number #", "false", 1, 9);
        onlyWhileNoWeekWentBy("number 5");
        onlyWhileNoWeekWentBy("number 4");
    }

    private static void waveBounds() {
        bound(BUILT, "wave # 0", "none", 0, 9);
        bound(BUILT, "wave 5 #", "none", 0, 2);
        bound(BUILT + "; weeks 3", "wave # 1", "none", 0, 9);
        bound("119*wave 5 2", "wave # 0", "none", 0, 9);
        Runs.run("wave 5 0 = 1; wave 5 0 = 2; wave 10 0 = none; wave 5 0 = 3; weeks 2; wave 5 0 = 4; count 1 = 4");
        Runs.run("119*wave 5 2; count 1 = 119; wave 5 2 = 120; wave 5 2 = none; wave 0 0 = none; count 1 = 120");
        Runs.run("120*wave 5 2; weeks 120; wave 5 2 = none; count 1 = 120; count 2 = 120");
    }

    private static void weeksBounds() {
        bound(BUILT, "weeks #", "none", 0, 3);
        bound(BUILT + "; weeks 2", "weeks #", "none", 0, 1);
        bound(BUILT + "; weeks 3", "weeks #", "none", 0, 0);
        bound("count 1 = 0", "weeks #", "none", 0, 0);
        bound("120*wave 5 2", "weeks #", "none", 0, 120);
        bound("120*wave 5 2; weeks 1", "weeks #", "none", 0, 119);
        Runs.run(BUILT, "weeks 0 = 0; weeks 1 = 1; weeks 3 = none; count 2 = 1; weeks 0 = 1; weeks 2 = 3; weeks 1 = none; count 2 = 3");
        Runs.run("120*wave 5 2; weeks 121 = none; weeks 120 = 120; weeks 0 = 120; weeks 1 = none; weeks 120 = none; count 2 = 120");
    }

    private static void dredgeBounds() {
        String filled = BUILT + "; weeks 1; border 2 2 = 10";
        for (String before : new String[] {BUILT, filled}) {
            bound(before, "dredge # 5 0", "none", 2, 2);
            bound(before, "dredge 2 # 0", "none", 1, 9999);
            bound(before, "dredge 2 5 #", "none", 0, 3);
        }
        boundByFields("; mouth 1 50", "dredge 1 5 #", "none", 0, n -> n - 1);
        Runs.run(filled, "dredge 1 5 0 = none; dredge 3 5 0 = none; dredge 0 5 0 = none; dredge 4 5 0 = none; border 2 2 = 10; count 5 = 0");
        Runs.run(filled, "dredge 2 4 3 = 4; dredge 2 10000 3 = none; dredge 2 0 3 = none; border 2 2 = 6; dredge 2 9999 3 = 6; count 5 = 2");
    }

    private static void dredgedAtMost20Times() {
        String filled = "fields 2; mouth 1 50; 3*wave 5 0; weeks 1; border 1 2 = 10; look 1 0 = 990; ";
        // the line of 101 beside 99 drives 23 in week 2
        Runs.run(filled + "19*dredge 1 9999 0; count 5 = 19; weeks 1; border 1 2 = 11; look 0 0 = 1007; without 0 0 = 100",
            "dredge 1 4 0 = 4; count 5 = 20; look 0 0 = 1011; without 0 0 = 101",
            "dredge 1 5 0 = none; look 0 0 = 1011; border 1 2 = 7; without 0 0 = 101; count 5 = 20");
        Runs.run(filled + "20*dredge 1 1 1; border 1 2 = 0; look 1 0 = 1000; weeks 1; border 1 2 = 10; look 1 0 = 990",
            "dredge 1 5 1 = none; border 1 2 = 10; look 1 0 = 990; without 0 1 = 99; count 5 = 20");
        // even those that brought nothing count
        Runs.run(BUILT, "20*dredge 2 5 0 = 0; count 5 = 20; weeks 1; border 2 2 = 10; dredge 2 5 0 = none; border 2 2 = 10");
    }

    private static void lineBounds() {
        fieldBound("line #", "throws");
        bound(BUILT + "; weeks 2", "line #", "throws", 0, 3);
    }

    private static void lookBounds() {
        for (int what = 0; what <= 2; what++) {
            fieldBound("look # " + what, "none");
            bound(BUILT + "; weeks 2", "look # " + what, "none", 0, 3);
        }
        bound(BUILT, "look 3 #", "none", 0, 2);
        Runs.run(BUILT, "look -1 -1 = none; look 4 3 = none; look -1 3 = none; look 4 -1 = none");
    }

    private static void borderBounds() {
        boundByFields("", "border # 0", "none", 0, n -> n);
        boundByFields("", "border # 3", "-100000", 0, n -> n);
        boundByFields("; wave 5 0; weeks 1", "border # 3", "-100000", 0, n -> n);
        for (int what = 1; what <= 2; what++) {
            bound(BUILT, "border # " + what, "none", 1, 2);
        }
        for (int border = 1; border <= 2; border++) {
            bound(BUILT, "border " + border + " #", "none", 0, 3);
        }
        for (int border : new int[] {0, 3, 4}) {
            Runs.run(BUILT, "border " + border + " 0 = 0; border " + border + " 1 = none; border " + border + " 2 = none");
            Runs.run(BUILT, "border " + border + " 3 = 0; border " + border + " 4 = none; border " + border + " -1 = none");
            Runs.run(BUILT, "weeks 1; border " + border + " 3 = 20; border " + border + " 1 = none; border " + border + " 2 = none");
        }
        for (int border : new int[] {-1, 5}) {
            Runs.run(BUILT, "border " + border + " 0 = none; border " + border + " 1 = none; border " + border + " 2 = none");
            Runs.run(BUILT, "border " + border + " 3 = -100000; border " + border + " 4 = none; border " + border + " -1 = none");
        }
        Runs.run(BUILT, "border 1 0 = 1; border 1 1 = 150; border 1 2 = 50; border 2 0 = 2; border 2 1 = 50; border 2 2 = 0");
        Runs.run(BUILT, "weeks 1; border 1 3 = 10; border 2 3 = 20; border 1 2 = 50; border 2 2 = 10; border 1 0 = 1; border 2 0 = 2");
    }

    private static void withoutBounds() {
        for (String before : new String[] {BUILT, BUILT + "; weeks 2"}) {
            bound(before, "without 0 #", "none", 0, 3);
            bound(before, "without 2 #", "none", 0, 3);
            for (int set : new int[] {1, 3, 4, 6, 8, 10, 16, 18, 32, 4096, 8192, 1 << 30, Integer.MIN_VALUE, Integer.MIN_VALUE + 2,
                -1, -2, Integer.MAX_VALUE}) {
                Runs.run(before, "without " + set + " 0 = none");
            }
        }
        boundByFields("", "without 0 #", "none", 0, n -> n - 1);
        for (int border = 1; border <= 5; border++) {
            int bit = 1 << border;
            Runs.run("groyne " + border + " 5 5; without " + bit + " 0 = 100; without " + (bit | 1) + " 0 = none");
            Runs.run("groyne " + border + " 5 5; without " + (bit | 64) + " 0 = none; without " + bit * 2 + " 0 = none");
            Runs.run("groyne " + border + " 5 5; groyne " + border + " 0 5; without " + bit + " 0 = none");
            Runs.run("groyne " + border + " 5 5; mouth " + border + " 5; without " + bit + " 0 = none");
        }
    }

    private static void shareBounds() {
        String dams = "groyne 1 999 0; groyne 2 999 0; groyne 3 999 0; groyne 4 999 0; groyne 5 999 0; wave 6 0; weeks 1";
        bound(dams, "share 1 2 #", "throws", 0, 5);
        bound(dams, "share # 30 0", "throws", 1, 4);
        bound(dams, "share # 60 0", "throws", 2, 5);
        bound(dams, "share # 4 0", "throws", 2, 2);
        bound(dams, "share 1 # 0", "throws", 2, 2 | 4 | 8 | 16);
        for (int set : new int[] {0, 3, 7, 28, 62, 66, -2, 1 << 30 | 2, Integer.MIN_VALUE | 2}) {
            Runs.run(dams, "share 1 " + set + " 0 = throws");
        }
        Runs.run(dams, "share 0 1 0 = throws; share 0 3 0 = throws; share 6 64 0 = throws; share 6 66 0 = throws; share 33 2 0 = throws");
        Runs.run(BUILT, "weeks 1; share 1 2 0 = -1; share 2 4 0 = throws; share 1 6 0 = throws; share 3 8 0 = throws; share 1 2 4 = throws");
        Runs.run(BUILT, "share 1 2 0 = 0; share 1 2 3 = 0; share 1 2 -1 = throws");
    }

    private static void workBounds() {
        for (String before : new String[] {BUILT, BUILT + "; weeks 3", BUILT + "; 5*work 0 0 5 5"}) {
            bound(before, "work # 1 5 5", "none", 0, 1);
            bound(before, "work 0 # 5 5", "none", 0, 3);
            bound(before, "work 0 3 # 5", "none", 1, 9999);
            bound(before, "work 0 3 5 #", "none", 1, 999);
            bound(before, "work 1 # 5 5", "none", 1, 1);
            bound(before, "work 1 1 # 5", "none", 1, 999);
            bound(before, "work 1 1 5 #", "none", 1, 999);
        }
        boundByFields("", "work 0 # 5 5", "none", 0, n -> n - 1);
        Runs.run(BUILT, "work 0 0 5 5 = 0; work 1 1 5 5 = 1; work 1 2 5 5 = none; work 1 3 5 5 = none; work 1 0 5 5 = none; work 1 4 5 5 = none",
            "work 0 3 5 5 = 2; count 3 = 3");
        Runs.run(BUILT, "5*work 0 0 5 5; work 1 1 5 5 = 5; work 1 1 5 5 = none; work 0 0 5 5 = none; count 3 = 6");
    }

    private static void markBounds() {
        for (String before : new String[] {BUILT, BUILT + "; weeks 3"}) {
            bound(before, "mark # 5", "false", 0, 3);
            bound(before, "mark 3 #", "false", 0, 9999);
        }
        fieldBound("mark # 5", "false");
        Runs.run(BUILT, "mark 0 9999; works = none; mark 0 10000 = false; mark 4 0 = false; mark -1 0 = false; works = none; mark 0 0; works = 0");
    }

    private static void worksBounds() {
        Runs.run("works = 0; mark 0 9999; works = 0; wave 5 2; works = none; mark 0 100; works = 0; mark 0 101; works = none");
        Runs.run("wave 5 2; mark 0 101; work 0 0 9 1; works = none; work 0 0 10 1; works = 2; work 0 0 1 1; works = 2");
        Runs.run("wave 5 2; mark 0 101; mark 5 101; work 0 0 10 1; works = none; work 0 5 10 1; works = 3");
        Runs.run("fields 2; 120*wave 5 2; weeks 120; mark 1 101; 5*work 0 1 2 1; work 0 1 2 999; works = 31; look 1 0 = 1000");
    }

    private static void surveyBounds() {
        for (String before : new String[] {BUILT, BUILT + "; weeks 3", BUILT + "; 19*survey 0 1 100 100"}) {
            bound(before, "survey # 1 99 100", "none", 0, 3);
            bound(before, "survey 3 # 99 100", "none", 1, 120);
            bound(before, "survey 3 1 # 100", "none", 0, 100);
            bound(before, "survey 3 1 # 9999", "none", 0, 9999);
            bound(before, "survey 3 1 # 0", "none", 0, 0);
            bound(before, "survey 3 1 0 #", "none", 0, 9999);
            bound(before, "survey 3 1 100 #", "none", 100, 9999);
            bound(before, "survey 3 1 9999 #", "none", 9999, 9999);
        }
        fieldBound("survey # 1 99 100", "none");
        Runs.run(BUILT, "survey 0 1 5 4 = none; survey 0 1 5 5 = 1; survey 0 1 5 6 = 2; survey 0 1 -1 -1 = none; survey 0 1 10000 10000 = none");
        Runs.run(BUILT, "19*survey 0 1 0 9999; survey 0 1 0 9999 = 20; survey 0 1 0 9999 = none; survey 1 120 0 9999 = none; count 4 = 20");
    }

    private static void fitsBounds() {
        Runs.run("fits = 511; survey 0 1 5 5; fits = 511; wave 5 2; fits = 0");
        Runs.run("fields 2; feed 0 0; wave 5 0; survey 0 1 99 9999; fits = 3; survey 0 1 0 98; fits = 0; weeks 1; fits = 0; look 0 0 = 980");
        Runs.run("fields 2; feed 0 0; wave 5 0; weeks 1; survey 0 1 95 95; fits = 256; line 0 = 98; number 9 = false");
    }

    private static void countBounds() {
        bound("count 0 = 6", "count #", "none", 0, 6);
        bound(BUILT + "; weeks 2; dredge 2 5 0", "count #", "none", 0, 6);
        Runs.run(BUILT, "weeks 2; dredge 2 5 0; 4*work 0 0 5 5; 6*survey 0 1 5 5",
            "count 0 = 4; count 1 = 3; count 2 = 2; count 3 = 4; count 4 = 6; count 5 = 1");
        Runs.run("fields 2; mouth 1 50; wave 9 0; weeks 1; count 6 = 2000; look 0 0 = 973; look 1 0 = 955; look 0 1 = 27; border 1 2 = 18");
        Runs.run("fields 12; count 6 = 12000; mouth 11 100; wave 5 0; weeks 1; border 11 2 = 20; count 6 = 12000");
        Runs.run("fields 2; sand 0 99999; sand 1 99999; count 6 = 199998; sand 0 0; sand 1 0; count 6 = 0");
    }

    /** One call of each kind for each list that is full and for the begin that has gone by. */
    private static void refusedWhereAllIsFull() {
        String full = "fields 2; mouth 1 50; 120*wave 6 0; weeks 119; 20*dredge 1 5 0; 6*work 0 0 5 5; 20*survey 0 1 0 9999";
        Runs.run(full, "wave 5 0 = none; dredge 1 5 0 = none; work 0 0 5 5 = none; survey 0 1 0 9999 = none");
        for (String call : BEGIN_CALLS) {
            Runs.run(full, call + " = false");
        }
        Runs.run(full, "fields 2 = false; fields 3 = false; weeks 2 = none; weeks 1 = 120; weeks 1 = none");
    }

    public static void main(String[] args) {
        Runs.sentence("1: a new object", BoundsTest::newObject);
        Runs.sentence("2: n FIELDS: true; false: another n", BoundsTest::fieldsBounds);
        Runs.sentence("2: false: something else was told ahead", BoundsTest::fieldsOnlyAheadOfAllElse);
        Runs.sentence("3: sand", BoundsTest::sandBounds);
        Runs.sentence("4: groyne", BoundsTest::groyneBounds);
        Runs.sentence("5: mouth", BoundsTest::mouthBounds);
        Runs.sentence("6: wall", BoundsTest::wallBounds);
        Runs.sentence("7: feed", BoundsTest::feedBounds);
        Runs.sentence("8: number", BoundsTest::numberBounds);
        Runs.sentence("9: wave", BoundsTest::waveBounds);
        Runs.sentence("10: weeks", BoundsTest::weeksBounds);
        Runs.sentence("11: dredge", BoundsTest::dredgeBounds);
        Runs.sentence("11: 20 were done", BoundsTest::dredgedAtMost20Times);
        Runs.sentence("12: line", BoundsTest::lineBounds);
        Runs.sentence("13: look", BoundsTest::lookBounds);
        Runs.sentence("14: border", BoundsTest::borderBounds);
        Runs.sentence("15: without", BoundsTest::withoutBounds);
        Runs.sentence("16: share", BoundsTest::shareBounds);
        Runs.sentence("17: work", BoundsTest::workBounds);
        Runs.sentence("18: mark", BoundsTest::markBounds);
        Runs.sentence("19: works", BoundsTest::worksBounds);
        Runs.sentence("20: survey", BoundsTest::surveyBounds);
        Runs.sentence("21: fits", BoundsTest::fitsBounds);
        Runs.sentence("22: count", BoundsTest::countBounds);
        Runs.sentence("a refused call changes nothing where every list is full", BoundsTest::refusedWhereAllIsFull);
        Runs.end();
    }
}
