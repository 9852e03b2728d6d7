/** The bounds that the document's Terms name, a test for each of their sentences. */
public final class TermsTest {
    private static void fieldsFrom2To12() {
        Runs.run("count 0 = 6; fields 1 = false; fields 13 = false; count 0 = 6; look 5 0 = 1000; look 6 0 = none");
        Runs.run("fields 2; count 0 = 2; look 1 0 = 1000; look 2 0 = none");
        Runs.run("fields 12; count 0 = 12; look 11 0 = 1000; look 12 0 = none");
        Runs.run("fields 12; fields 1 = false; count 0 = 12; fields 2; fields 13 = false; count 0 = 2");
    }

    private static void sandFrom0To99999() {
        for (int field = 0; field < 6; field++) {
            String sand = "sand " + field + " ";
            String look = "look " + field + " 0 = ";
            Runs.run(look + 1000, sand + 0, look + 0, sand + 99999, look + 99999);
            Runs.run(sand + "-1 = false", look + 1000, sand + "100000 = false", look + 1000);
        }
        for (int field = 0; field < 12; field++) {
            Runs.run("fields 12; look " + field + " 0 = 1000");
        }
    }

    private static void nothingOutAtSeaAtFirst() {
        for (int field = 0; field < 6; field++) {
            String look = "look " + field + " 1 = 0";
            Runs.run(look, "wave 0 2; wave 6 2; weeks 2", look);
        }
    }

    private static void lineIsATenthCut() {
        int[][] sandAndLine = {{0, 0}, {1, 0}, {9, 0}, {10, 1}, {19, 1}, {20, 2}, {999, 99}, {1000, 100}, {99989, 9998},
            {99990, 9999}, {99999, 9999}};
        for (int[] one : sandAndLine) {
            Runs.run("sand 3 " + one[0] + "; line 3 = " + one[1] + "; without 0 3 = " + one[1]);
        }
    }

    private static void bordersFrom0ToN() {
        for (int n = 2; n <= 12; n++) {
            String beyond = String.valueOf(n + 1);
            Runs.run("fields " + n, "border 0 0 = 0; border 0 3 = 0; border -1 0 = none; border -1 3 = -100000");
            Runs.run("fields " + n, "border " + n + " 0 = 0; border " + n + " 3 = 0");
            Runs.run("fields " + n, "border " + beyond + " 0 = none; border " + beyond + " 3 = -100000");
        }
    }

    private static void borderLiesToTheLeftOfItsField() {
        for (int border = 1; border < 4; border++) {
            String built = "fields 4; groyne " + border + " 999 0";
            String left = "look " + (border - 1) + " 0 = ";
            String right = "look " + border + " 0 = ";
            Runs.run(built, "wave 5 0; weeks 1", left + 1020, right + 980, "border " + border + " 3 = 0");
            Runs.run(built, "wave 5 1; weeks 1", left + 980, right + 1020, "border " + border + " 3 = 0");
        }
    }

    private static void betweenTheEndsAlone(String call, String rest) {
        for (int n = 2; n <= 12; n++) {
            String fields = "fields " + n;
            Runs.run(fields, call + " 1" + rest, call + " " + (n - 1) + rest);
            Runs.run(fields, call + " 0" + rest + " = false", "border 0 0 = 0");
            Runs.run(fields, call + " " + n + rest + " = false", "border " + n + " 0 = 0");
        }
    }

    private static void groynesBetweenTheEnds() {
        betweenTheEndsAlone("groyne", " 100 50");
    }

    private static void mouthsBetweenTheEnds() {
        betweenTheEndsAlone("mouth", " 50");
    }

    private static void groyneLengths() {
        Runs.run("groyne 1 1 7; border 1 0 = 1; border 1 1 = 1; groyne 1 999 7; border 1 1 = 999");
        Runs.run("groyne 1 5 7; groyne 1 1000 8 = false; groyne 1 -1 8 = false; border 1 1 = 5; border 1 2 = 7");
        Runs.run("groyne 1 1000 8 = false; groyne 1 -1 8 = false; border 1 0 = 0");
    }

    private static void groyneLeaks() {
        Runs.run("groyne 1 5 0; border 1 2 = 0; groyne 1 5 100; border 1 2 = 100");
        Runs.run("groyne 1 5 7; groyne 1 6 101 = false; groyne 1 6 -1 = false; border 1 1 = 5; border 1 2 = 7");
        Runs.run("groyne 1 0 0; groyne 1 0 100; groyne 1 0 101 = false; groyne 1 0 -1 = false; border 1 0 = 0");
    }

    private static void mouthKeeps() {
        Runs.run("mouth 1 0; border 1 0 = 2; border 1 1 = 0; mouth 1 100; border 1 1 = 100; border 1 2 = 0");
        Runs.run("mouth 1 30; mouth 1 -1 = false; mouth 1 101 = false; border 1 1 = 30");
        Runs.run("mouth 1 -1 = false; mouth 1 101 = false; border 1 0 = 0");
    }

    private static void oneThingAtABorder() {
        Runs.run("groyne 1 50 60; mouth 1 30; border 1 0 = 2; border 1 1 = 30; border 1 2 = 0");
        Runs.run("mouth 1 30; groyne 1 50 60; border 1 0 = 1; border 1 1 = 50; border 1 2 = 60");
        Runs.run("groyne 1 50 60; groyne 1 0 0; border 1 0 = 0; border 1 1 = none; border 1 2 = none");
        Runs.run("mouth 1 30; groyne 1 0 0; border 1 0 = 0; border 1 1 = none; border 1 2 = none");
        Runs.run("fields 2; groyne 1 999 0; mouth 1 0; wave 5 0; weeks 1; border 1 3 = 20");
        Runs.run("fields 2; mouth 1 100; groyne 1 1 0; wave 5 0; weeks 1; border 1 3 = 20; look 1 0 = 1000");
        Runs.run("fields 2; groyne 1 999 0; groyne 1 0 0; wave 5 0; weeks 1; border 1 3 = 20; look 1 0 = 1000");
        Runs.run("fields 2; mouth 1 100; groyne 1 0 0; wave 5 0; weeks 1; border 1 3 = 20; look 1 0 = 1000");
    }

    private static void wallMarks() {
        for (int field = 0; field < 6; field++) {
            String wall = "wall " + field + " ";
            String look = "look " + field + " ";
            Runs.run(wall + 0, wall + 999, wall + "1000 = false", wall + "-1 = false");
            Runs.run(wall + "1000 = false", wall + "-1 = false", "wave 9 2; weeks 1", look + "0 = 973");
            Runs.run("sand " + field + " 9991", wall + 999, "wave 9 2; weeks 1", look + "0 = 9990", look + "1 = 1");
            Runs.run(wall + 100, wall + 0, "wave 9 2; weeks 1", look + "0 = 973");
        }
    }

    /** 20 units want to pass; the sand above the wall lets none, some or all of them. */
    private static void wallHoldsPassing() {
        int[][] sandAndPassed = {{999, 0}, {1000, 0}, {1001, 1}, {1019, 19}, {1020, 20}, {1021, 20}};
        for (int[] one : sandAndPassed) {
            int sand = one[0];
            int passed = one[1];
            String built = "fields 2; sand 0 " + sand + "; sand 1 " + sand;
            String scour = " 2 = " + (20 - passed);
            Runs.run(built, "wall 0 100; feed 0 0; wave 5 0; weeks 1",
                "border 1 3 = " + passed, "look 0 0 = " + (sand - passed), "look 0" + scour);
            Runs.run(built, "wall 1 100; feed 1 0; wave 5 1; weeks 1",
                "border 1 3 = " + -passed, "look 1 0 = " + (sand - passed), "look 1" + scour);
        }
    }

    private static void wallHoldsStorms() {
        int[][] sandAndLost = {{999, 0}, {1000, 0}, {1001, 1}, {1026, 26}, {1027, 27}, {1028, 27}};
        for (int[] one : sandAndLost) {
            Runs.run("fields 2; wall 1 100; sand 1 " + one[0], "wave 9 2; weeks 1", "look 1 0 = " + (one[0] - one[1]),
                "look 1 1 = " + one[1], "look 1 2 = 0; look 0 0 = 973");
        }
    }

    private static void waveHeights() {
        Runs.run("wave 0 0 = 1; wave 9 0 = 2; wave -1 0 = none; wave 10 0 = none; count 1 = 2");
        Runs.run("wave -1 2 = none; wave 10 2 = none; count 1 = 0; weeks 1 = none");
        Runs.run("fields 2; number 9; wave 0 0; wave 9 0; weeks 1; border 1 3 = 0; weeks 1; border 1 3 = 81");
    }

    private static void waveSides() {
        Runs.run("wave 5 0 = 1; wave 5 2 = 2; wave 5 -1 = none; wave 5 3 = none; count 1 = 2");
        String towards = "fields 2; feed 0 50; feed 1 150; wave 5 ";
        Runs.run(towards + 0, "weeks 1; border 0 3 = 10; border 1 3 = 20; border 2 3 = 20; look 0 0 = 990; look 1 0 = 1000");
        Runs.run(towards + 1, "weeks 1; border 0 3 = -20; border 1 3 = -20; border 2 3 = -30; look 0 0 = 1000; look 1 0 = 1010");
        Runs.run(towards + 2, "weeks 1; border 0 3 = 0; border 1 3 = 0; border 2 3 = 0; look 0 0 = 1000; look 1 0 = 1000");
    }

    private static void weeksAtMost120() {
        Runs.run("fields 2; 119*wave 5 2; wave 9 2 = 120; wave 9 2 = none; count 1 = 120; weeks 119 = 119",
            "look 0 0 = 1000; weeks 2 = none; weeks 1 = 120; look 0 0 = 973; wave 9 2 = none; weeks 1 = none; count 1 = 120");
        Runs.run("fields 2; wave 9 2; 118*wave 3 2; wave 3 2 = 120; wave 0 2 = none; weeks 1; look 0 0 = 973",
            "wave 0 2 = none; weeks 119; look 0 0 = 973");
    }

    private static void weeksGoInTheOrderTold() {
        Runs.run("fields 2; wave 9 2; wave 0 2; weeks 1; look 0 0 = 973; weeks 1; look 0 0 = 980");
        Runs.run("fields 2; wave 0 2; wave 9 2; weeks 1; look 0 0 = 1000; weeks 1; look 0 0 = 973");
        Runs.run("fields 2; wave 9 2; wave 0 2; weeks 2; look 0 0 = 980");
        Runs.run("fields 2; wave 0 2; wave 9 2; weeks 2; look 0 0 = 973");
        Runs.run("fields 2; wave 9 2; weeks 1; wave 0 2; weeks 1; look 0 0 = 980");
    }

    private static void numberFrom1To9() {
        Runs.run("fields 2; wave 5 0; weeks 1; border 1 3 = 20");
        Runs.run("fields 2; number 1; wave 5 0; weeks 1; border 0 3 = 5; border 1 3 = 5; border 2 3 = 5");
        Runs.run("fields 2; number 9; wave 5 0; weeks 1; border 0 3 = 45; border 1 3 = 45; border 2 3 = 45");
        Runs.run("fields 2; number 0 = false; number 10 = false; wave 5 0; weeks 1; border 1 3 = 20");
        Runs.run("fields 2; number 9; number 0 = false; number 10 = false; wave 5 0; weeks 1; border 1 3 = 45");
    }

    private static void feedIsOf100Cut() {
        int[][] feedAndUnits = {{0, 0}, {4, 0}, {5, 1}, {9, 1}, {10, 2}, {99, 19}, {100, 20}, {101, 20}, {104, 20}, {105, 21},
            {199, 39}, {200, 40}};
        for (int[] one : feedAndUnits) {
            int sand = 980 + one[1];
            Runs.run("fields 2; feed 0 " + one[0], "wave 5 0; weeks 1; border 0 3 = " + one[1], "look 0 0 = " + sand);
            Runs.run("fields 2; feed 1 " + one[0], "wave 5 1; weeks 1; border 2 3 = " + -one[1], "look 1 0 = " + sand);
        }
        Runs.run("fields 2; number 1; feed 0 99; wave 1 0; weeks 1; border 0 3 = 0; look 0 0 = 999");
    }

    private static void feedFrom0To200OfEachEnd() {
        Runs.run("fields 2; wave 5 0; wave 5 1; weeks 1; border 0 3 = 20; weeks 1; border 2 3 = -20");
        for (int end = 0; end <= 1; end++) {
            String feed = "feed " + end + " ";
            String week = "wave 5 " + end + "; weeks 1";
            String came = end == 0 ? "border 0 3 = " : "border 2 3 = -";
            Runs.run("fields 2", feed + 0, week, came + 0);
            Runs.run("fields 2", feed + 200, week, came + 40);
            Runs.run("fields 2", feed + "-1 = false", feed + "201 = false", week, came + 20);
            Runs.run("fields 2", feed + 50, feed + "-1 = false", feed + "201 = false", week, came + 10);
            Runs.run("fields 2", "feed " + (1 - end) + " 0", week, came + 20);
        }
        Runs.run("feed -1 5 = false; feed 2 5 = false; wave 5 0; weeks 1; border 0 3 = 20");
    }

    public static void main(String[] args) {
        Runs.sentence("FIELDS 0 to n - 1 (n 2 to 12, 6 at first)", TermsTest::fieldsFrom2To12);
        Runs.sentence("each has sand, 0 to 99999 units (1000 at first)", TermsTest::sandFrom0To99999);
        Runs.sentence("and sand OUT AT SEA (0 at first)", TermsTest::nothingOutAtSeaAtFirst);
        Runs.sentence("Its LINE is sand / 10, cut", TermsTest::lineIsATenthCut);
        Runs.sentence("BORDERS 0 to n; 0 and n are the ends", TermsTest::bordersFrom0ToN);
        Runs.sentence("BORDER i lies to the left of FIELD i", TermsTest::borderLiesToTheLeftOfItsField);
        Runs.sentence("A GROYNE at a BORDER 1 to n - 1", TermsTest::groynesBetweenTheEnds);
        Runs.sentence("a length (1 to 999)", TermsTest::groyneLengths);
        Runs.sentence("a leak (0 to 100 of 100)", TermsTest::groyneLeaks);
        Runs.sentence("A MOUTH at a BORDER 1 to n - 1", TermsTest::mouthsBetweenTheEnds);
        Runs.sentence("it keeps so many of 100 (0 to 100)", TermsTest::mouthKeeps);
        Runs.sentence("A BORDER has a GROYNE or a MOUTH or none", TermsTest::oneThingAtABorder);
        Runs.sentence("A WALL in a FIELD: its mark (0 to 999)", TermsTest::wallMarks);
        Runs.sentence("its sand goes not below 10 * its mark by passing", TermsTest::wallHoldsPassing);
        Runs.sentence("its sand goes not below 10 * its mark by storms", TermsTest::wallHoldsStorms);
        Runs.sentence("WAVES of a WEEK: height 0 to 9", TermsTest::waveHeights);
        Runs.sentence("side: 0 from the left, 1 from the right, 2 straight", TermsTest::waveSides);
        Runs.sentence("120 WEEKS at most are told", TermsTest::weeksAtMost120);
        Runs.sentence("WEEKS are told, in order", TermsTest::weeksGoInTheOrderTold);
        Runs.sentence("K is 1 to 9, 4 at first", TermsTest::numberFrom1To9);
        Runs.sentence("FEED: K * height units, times f of 100, cut", TermsTest::feedIsOf100Cut);
        Runs.sentence("f 0 to 200, for each end; 100 at first", TermsTest::feedFrom0To200OfEachEnd);
        Runs.end();
    }
}
