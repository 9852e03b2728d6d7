/** The bounds that the document names in '2. A WEEK', a test for each of its sentences. */
public final class WeekTest {
    /** Two fields, of which the waves of the side come first upon that with the sand told first. */
    private static String two(int side, int upper, int lower) {
        return "fields 2; sand " + side + " " + upper + "; sand " + (1 - side) + " " + lower;
    }

    private static String week(int height, int side) {
        return "wave " + height + " " + side + "; weeks 1";
    }

    private static String passed(int side, int units) {
        return "border 1 3 = " + (side == 0 ? units : -units);
    }

    private static String sandOf(int field, int units) {
        return "look " + field + " 0 = " + units;
    }

    private static void bySandAndLinesAtItsBegin() {
        Runs.run("fields 3; sand 1 0; sand 2 0; wave 5 0; weeks 1; border 1 3 = 35; border 2 3 = 0; border 3 3 = 0",
            "look 0 0 = 985; look 1 0 = 35; look 2 0 = 0");
        Runs.run("fields 3; sand 1 0; sand 0 0; wave 5 1; weeks 1; border 2 3 = -35; border 1 3 = 0; border 0 3 = 0",
            "look 2 0 = 985; look 1 0 = 35; look 0 0 = 0");
        Runs.run("fields 2; sand 0 0; wave 5 0; weeks 1; border 0 3 = 20; border 1 3 = 0; look 0 0 = 20");
        // the feed lifts the line to the groyne's length, and the inflow the sand above the wall, too late for this week
        Runs.run("fields 2; sand 0 999; groyne 1 100 0; wave 5 0; weeks 1; border 1 3 = 0; look 0 0 = 1019");
        Runs.run("fields 2; wall 0 100; wave 5 0; weeks 1; border 1 3 = 0; look 0 0 = 1020; look 0 2 = 20");
    }

    private static void withSide0Or1() {
        for (int height = 3; height <= 6; height++) {
            Runs.run("fields 3; sand 0 2000; wall 1 999; mouth 1 50; wave " + height + " 2; weeks 1",
                "border 0 3 = 0; border 1 3 = 0; border 2 3 = 0; border 3 3 = 0; border 1 2 = 0; look 1 2 = 0",
                "look 0 0 = 2000; look 1 0 = 1000; look 2 0 = 1000");
        }
        Runs.run("fields 2; 2*wave 5 0; wave 5 2; weeks 2; border 1 3 = 20; weeks 1; border 1 3 = 0; border 0 3 = 0");
    }

    /** With a height of 3 and K 9 there pass 27 and the difference of the lines. */
    private static void differenceFromMinus9To9() {
        int[][] differenceAndPassed = {{-100, 18}, {-11, 18}, {-10, 18}, {-9, 18}, {-8, 19}, {-1, 26}, {0, 27}, {1, 28},
            {8, 35}, {9, 36}, {10, 36}, {11, 36}, {100, 36}};
        for (int side = 0; side <= 1; side++) {
            for (int[] one : differenceAndPassed) {
                Runs.run(two(side, 2000, 2000 - 10 * one[0]), "number 9", week(3, side), passed(side, one[1]));
            }
            // the lines are cut each by itself
            Runs.run(two(side, 2009, 2000), "number 9", week(3, side), passed(side, 27));
            Runs.run(two(side, 2000, 1999), "number 9", week(3, side), passed(side, 28));
            Runs.run(two(side, 99999, 0), "number 9", week(3, side), passed(side, 36));
            Runs.run(two(side, 50, 99999), "number 9", week(3, side), passed(side, 18));
        }
    }

    private static void thirdCutTowards0() {
        int[][] heightDifferenceAndPassed = {
            {1, -4, 3}, {1, -3, 3}, {1, -2, 4}, {1, -1, 4}, {1, 1, 4}, {1, 2, 4}, {1, 3, 5}, {1, 5, 5}, {1, 6, 6}, {1, 8, 6},
            {1, -5, 3}, {1, -6, 2}, {1, -8, 2}, {1, -9, 1},
            {2, 1, 8}, {2, 2, 9}, {2, 4, 10}, {2, 5, 11}, {2, -1, 8}, {2, -2, 7}, {2, -4, 6}, {2, -5, 5},
            {5, 1, 21}, {5, 2, 23}, {5, -1, 19}, {5, -2, 17}};
        for (int side = 0; side <= 1; side++) {
            for (int[] one : heightDifferenceAndPassed) {
                Runs.run(two(side, 1000, 1000 - 10 * one[1]), week(one[0], side), passed(side, one[2]));
            }
        }
    }

    /** With a height of 6 and K 1 there pass 6 and twice the difference. */
    private static void passes0AtLeast() {
        int[][] differenceAndPassed = {{-2, 2}, {-3, 0}, {-4, 0}, {-9, 0}};
        for (int side = 0; side <= 1; side++) {
            for (int[] one : differenceAndPassed) {
                int lower = 1000 - 10 * one[0];
                Runs.run(two(side, 1000, lower), "number 1", week(6, side), passed(side, one[1]),
                    sandOf(side, 1006 - one[1]), sandOf(1 - side, lower - 6 + one[1]), "look " + side + " 2 = 0");
            }
            Runs.run(two(side, 1000, 2000), "number 1; mouth 1 100", week(6, side), passed(side, 0), "border 1 2 = 0");
            Runs.run(two(side, 1000, 2000), "number 1; groyne 1 999 100", week(6, side), passed(side, 0));
        }
    }

    private static void groyneHoldsBelowItsLength() {
        for (int side = 0; side <= 1; side++) {
            for (int sand : new int[] {1000, 1009}) {
                Runs.run(two(side, sand, 1000), "groyne 1 99 0", week(5, side), passed(side, 20));
                Runs.run(two(side, sand, 1000), "groyne 1 100 0", week(5, side), passed(side, 20));
                Runs.run(two(side, sand, 1000), "groyne 1 101 0", week(5, side), passed(side, 0));
            }
            // it is U's line that counts, not D's
            Runs.run(two(side, 1000, 500), "groyne 1 60 0", week(5, side), passed(side, 35));
            Runs.run(two(side, 500, 1000), "groyne 1 60 0", week(5, side), passed(side, 0));
            Runs.run(two(side, 9980, 9980), "groyne 1 999 0", week(5, side), passed(side, 0));
            Runs.run(two(side, 9990, 9990), "groyne 1 999 0", week(5, side), passed(side, 20));
            Runs.run(two(side, 9, 9), "groyne 1 1 0", week(5, side), passed(side, 0));
            Runs.run(two(side, 10, 10), "groyne 1 1 0", week(5, side), passed(side, 10));
        }
    }

    private static void groyneLeaksOf100Cut() {
        int[][] leakAndPassed = {{0, 0}, {1, 0}, {4, 0}, {5, 1}, {9, 1}, {10, 2}, {95, 19}, {99, 19}, {100, 20}};
        for (int side = 0; side <= 1; side++) {
            for (int[] one : leakAndPassed) {
                Runs.run(two(side, 1000, 1000), "groyne 1 999 " + one[0], week(5, side), passed(side, one[1]),
                    sandOf(side, 1020 - one[1]), sandOf(1 - side, 980 + one[1]), "look " + side + " 2 = 0");
            }
            // of the slope's part too, and ahead of what the sand lets
            Runs.run(two(side, 1000, 0), "groyne 1 999 50", week(5, side), passed(side, 17));
            Runs.run(two(side, 5, 5), "groyne 1 999 50", week(5, side), passed(side, 5));
            Runs.run(two(side, 1005, 1005), "groyne 1 999 50; wall " + side + " 100", week(5, side), passed(side, 5),
                "look " + side + " 2 = 5");
        }
    }

    private static void notMoreThanTheSand() {
        int[][] sandAndPassed = {{0, 0}, {1, 1}, {19, 19}, {20, 20}, {21, 20}};
        for (int side = 0; side <= 1; side++) {
            for (int[] one : sandAndPassed) {
                Runs.run(two(side, one[0], one[0]), "feed " + side + " 0", week(5, side), passed(side, one[1]),
                    sandOf(side, one[0] - one[1]), "look " + side + " 2 = 0");
            }
        }
    }

    private static void wallKeepsBackAndScours() {
        // sand, mark, passed, scour of 20 units
        int[][] cases = {{1000, 100, 0, 20}, {1005, 100, 5, 15}, {1019, 100, 19, 1}, {1020, 100, 20, 0}, {999, 100, 0, 20},
            {500, 999, 0, 20}, {15, 1, 5, 10}, {10, 1, 0, 10}, {5, 1, 0, 5}, {0, 1, 0, 0}, {15, 0, 15, 0}, {9990, 999, 0, 20},
            {9995, 999, 5, 15}};
        for (int side = 0; side <= 1; side++) {
            for (int[] one : cases) {
                Runs.run(two(side, one[0], one[0]), "wall " + side + " " + one[1], "feed " + side + " 0", week(5, side),
                    passed(side, one[2]), "look " + side + " 2 = " + one[3], sandOf(side, one[0] - one[2]));
            }
        }
    }

    private static void scourIsSummed() {
        Runs.run("fields 2; wall 0 100; feed 0 0; 3*wave 5 0; weeks 1; look 0 2 = 20; weeks 1; look 0 2 = 43; look 1 2 = 0");
        Runs.run("fields 2; wall 0 999; wall 1 999; wave 5 0; wave 5 1; weeks 1; look 0 2 = 20; look 1 2 = 20",
            "weeks 1; look 0 2 = 40");
        Runs.run("fields 2; wall 0 999; wave 5 0; wave 9 2; wave 0 2; weeks 3; look 0 2 = 20");
    }

    private static void mouthKeepsOf100Cut() {
        int[][] keepsAndBar = {{0, 0}, {1, 0}, {4, 0}, {5, 1}, {50, 10}, {99, 19}, {100, 20}};
        for (int side = 0; side <= 1; side++) {
            for (int[] one : keepsAndBar) {
                Runs.run(two(side, 1000, 1000), "mouth 1 " + one[0], week(5, side), passed(side, 20),
                    "border 1 2 = " + one[1], sandOf(side, 1000), sandOf(1 - side, 1000 - one[1]), "count 6 = 2000");
            }
            // of what passes, not of what the waves would drive
            Runs.run(two(side, 10, 10), "mouth 1 50", week(5, side), passed(side, 10), "border 1 2 = 5");
            Runs.run(two(side, 1006, 1006), "mouth 1 50; wall " + side + " 100", week(5, side), passed(side, 6),
                "border 1 2 = 3; look " + side + " 2 = 14");
        }
        Runs.run("fields 2; mouth 1 100; wave 5 0; wave 5 2; wave 5 1; weeks 1; border 1 2 = 20; weeks 1; border 1 2 = 20",
            "weeks 1; border 1 3 = -17; border 1 2 = 37");
    }

    private static void feedComesInAtTheNearEnd() {
        Runs.run("fields 3; sand 0 0; sand 1 0; sand 2 0; wave 5 0; weeks 1; look 0 0 = 20; look 1 0 = 0; look 2 0 = 0",
            "border 0 3 = 20; border 3 3 = 0");
        Runs.run("fields 3; sand 0 0; sand 1 0; sand 2 0; wave 5 1; weeks 1; look 0 0 = 0; look 1 0 = 0; look 2 0 = 20",
            "border 3 3 = -20; border 0 3 = 0");
        Runs.run("fields 2; wave 0 0; weeks 1; border 0 3 = 0; border 1 3 = 0; border 2 3 = 0");
    }

    /** 20 units want to go out of the far field, into which nothing passes. */
    private static void goesOutAtTheFarEnd() {
        // sand, mark, gone out, scour
        int[][] cases = {{1000, 0, 20, 0}, {21, 0, 20, 0}, {20, 0, 20, 0}, {19, 0, 19, 0}, {0, 0, 0, 0}, {1021, 100, 20, 0},
            {1020, 100, 20, 0}, {1019, 100, 19, 1}, {1001, 100, 1, 19}, {1000, 100, 0, 20}, {999, 100, 0, 20}, {5, 1, 0, 5}};
        for (int side = 0; side <= 1; side++) {
            int far = 1 - side;
            for (int[] one : cases) {
                int gone = side == 0 ? one[2] : -one[2];
                Runs.run(two(side, 0, one[0]), "wall " + far + " " + one[1], week(5, side),
                    "border " + (side == 0 ? 2 : 0) + " 3 = " + gone, sandOf(far, one[0] - one[2]),
                    "look " + far + " 2 = " + one[3]);
            }
        }
    }

    private static void stormsFromHeight7() {
        for (int height = 3; height <= 9; height++) {
            int lost = height >= 7 ? 3 * height : 0;
            for (int side = 0; side <= 2; side++) {
                String all = "fields 3; " + week(height, side);
                for (int field = 0; field < 3; field++) {
                    Runs.run(all, sandOf(field, 1000 - lost), "look " + field + " 1 = " + lost);
                }
            }
        }
    }

    private static void stormsTakeWhatSandAndWallLet() {
        // sand, mark, lost of 21
        int[][] cases = {{22, 0, 21}, {21, 0, 21}, {20, 0, 20}, {1, 0, 1}, {0, 0, 0}, {1022, 100, 21}, {1021, 100, 21},
            {1020, 100, 20}, {1001, 100, 1}, {1000, 100, 0}, {999, 100, 0}, {0, 999, 0}};
        for (int[] one : cases) {
            Runs.run("fields 2; sand 1 " + one[0], "wall 1 " + one[1], week(7, 2), sandOf(1, one[0] - one[2]),
                "look 1 1 = " + one[2], "look 1 2 = 0; look 0 0 = 979");
        }
        Runs.run("fields 2; sand 1 50; wave 7 2; wave 9 2; wave 7 2; weeks 1; look 1 1 = 21; weeks 1; look 1 1 = 48; look 0 1 = 48",
            "weeks 1; look 1 1 = 50; look 1 0 = 0; look 0 1 = 69; look 0 0 = 931");
        // what passing left or brought is what the storm finds
        Runs.run("fields 2; sand 0 0; wave 7 0; weeks 1; look 0 0 = 7; look 0 1 = 21");
        Runs.run("fields 2; sand 0 30; sand 1 30; feed 0 0; wave 7 0; weeks 1; look 0 0 = 0; look 0 1 = 2; look 1 1 = 21");
    }

    private static void calmUpToHeight2() {
        for (int height = 0; height <= 6; height++) {
            int back = height <= 2 ? 6 : 0;
            for (int side = 0; side <= 2; side++) {
                Runs.run("fields 2; wave 7 2; weeks 1; look 1 1 = 21", week(height, side), "look 0 1 = " + (21 - back),
                    "look 1 1 = " + (21 - back), sandOf(0, 979 + back), sandOf(1, 979 + back));
            }
        }
    }

    private static void aQuarterCutUpwards() {
        int[] backOf = {0, 1, 1, 1, 1, 2, 2, 2, 2, 3, 3, 3, 3, 4, 4, 4, 4, 5, 5, 5, 5, 6};
        for (int sea = 0; sea < backOf.length; sea++) {
            Runs.run("fields 2; sand 0 " + sea, week(7, 2), "look 0 0 = 0; look 0 1 = " + sea, week(2, 2),
                sandOf(0, backOf[sea]), "look 0 1 = " + (sea - backOf[sea]));
        }
        Runs.run("fields 2; sand 0 2; wave 7 2; 3*wave 0 2; weeks 3; look 0 0 = 2; look 0 1 = 0; weeks 1; look 0 0 = 2");
    }

    /** The feed of 108 at the near end and 54 that pass on leave 54 more there. */
    private static void sandAboveTheMostIsLostBehindPassing() {
        int[][] sandAndThen = {{99944, 99998}, {99945, 99999}, {99946, 99999}, {99999, 99999}};
        for (int side = 0; side <= 1; side++) {
            for (int[] one : sandAndThen) {
                Runs.run(two(side, one[0], one[0]), "number 9; feed " + side + " 200", week(6, side), passed(side, 54),
                    sandOf(side, one[1]), sandOf(1 - side, one[0]), "count 6 = " + (one[0] + one[1]));
            }
            // not while it still passes, but ahead of the storm
            Runs.run(two(side, 99999, 99999), week(5, side), sandOf(side, 99999), sandOf(1 - side, 99999));
            Runs.run(two(side, 99999, 99999), "number 9; feed " + side + " 200", week(9, side), sandOf(side, 99972));
        }
    }

    /** A storm takes 27, the feed leaves 54, the calm brings back 7: 34 more than at the begin. */
    private static void sandAboveTheMostIsLostBehindCalm() {
        int[][] sandAndThen = {{99964, 99998}, {99965, 99999}, {99966, 99999}, {99972, 99999}};
        for (int[] one : sandAndThen) {
            Runs.run(two(0, one[0], one[0]), "number 9; feed 0 200; wave 9 2; wave 6 0; wave 0 2; weeks 2",
                sandOf(0, one[0] + 27), "look 0 1 = 27; weeks 1; look 0 1 = 20", sandOf(0, one[1]));
        }
    }

    private static void sandAboveTheMostIsLostWhenBrought() {
        int[][] sandAndThen = {{99978, 99998}, {99979, 99999}, {99980, 99999}, {99999, 99999}};
        for (int[] one : sandAndThen) {
            Runs.run(two(0, one[0], one[0]), "mouth 1 100; wave 5 0; weeks 1; border 1 2 = 20; dredge 1 20 0 = 20",
                sandOf(0, one[1]), "border 1 2 = 0; count 6 = " + (one[1] + one[0] - 20), "without 0 0 = 9999");
        }
        // works bring at the begin: of 99989 + 10 nothing is lost, of 99989 + 11 one unit, so the storm leaves 99972
        Runs.run("fields 2; sand 0 99989; wave 9 2; mark 0 9997; work 0 0 10 1; works = 1");
        Runs.run("fields 2; sand 0 99989; wave 9 2; mark 0 9997; work 0 0 11 1; work 0 0 9999 1; works = 1");
        Runs.run("fields 2; sand 0 99989; wave 9 2; mark 0 9998; work 0 0 9999 1; work 0 0 9999 1; works = none");
    }

    public static void main(String[] args) {
        Runs.sentence("PASSING, all by sand and LINES as they are at its begin", WeekTest::bySandAndLinesAtItsBegin);
        Runs.sentence("with side 0 or 1", WeekTest::withSide0Or1);
        Runs.sentence("but not below -9, above 9", WeekTest::differenceFromMinus9To9);
        Runs.sentence("/ 3, cut towards 0", WeekTest::thirdCutTowards0);
        Runs.sentence("0 at least", WeekTest::passes0AtLeast);
        Runs.sentence("At a GROYNE, if U's LINE is below its length", WeekTest::groyneHoldsBelowItsLength);
        Runs.sentence("of that so many of 100 as it leaks, cut", WeekTest::groyneLeaksOf100Cut);
        Runs.sentence("Not more than U's sand", WeekTest::notMoreThanTheSand);
        Runs.sentence("what U's WALL keeps back of that is SCOUR of U", WeekTest::wallKeepsBackAndScours);
        Runs.sentence("SCOUR of U (summed)", WeekTest::scourIsSummed);
        Runs.sentence("At a MOUTH: so many of 100, cut, go to the BAR, the rest to D", WeekTest::mouthKeepsOf100Cut);
        Runs.sentence("At the end from which they come: FEED comes into the FIELD there", WeekTest::feedComesInAtTheNearEnd);
        Runs.sentence("at the other end K * height units go out, by its sand and WALL", WeekTest::goesOutAtTheFarEnd);
        Runs.sentence("height 7 and more: each FIELD loses 3 * height units", WeekTest::stormsFromHeight7);
        Runs.sentence("as far as sand and WALL let (without SCOUR)", WeekTest::stormsTakeWhatSandAndWallLet);
        Runs.sentence("height 2 or less: what is OUT AT SEA comes back", WeekTest::calmUpToHeight2);
        Runs.sentence("a quarter of what is OUT AT SEA, cut upwards", WeekTest::aQuarterCutUpwards);
        Runs.sentence("sand above 99999 is lost, behind (1)", WeekTest::sandAboveTheMostIsLostBehindPassing);
        Runs.sentence("sand above 99999 is lost, behind (2)", WeekTest::sandAboveTheMostIsLostBehindCalm);
        Runs.sentence("sand above 99999 is lost, whenever sand is brought", WeekTest::sandAboveTheMostIsLostWhenBrought);
        Runs.end();
    }
}
