/** The bounds that the document names in '3. THE BEGIN', a test for each of its sentences. */
public final class BeginTest {
    /** Dams at all borders, which pass nothing: without them 24 units pass at each border that is left open. */
    private static final String DAMS = "groyne 1 999 0; groyne 2 999 0; groyne 3 999 0; groyne 4 999 0; groyne 5 999 0; "
        + "wave 6 0; weeks 1";
    /** 20 units go into the bar in each of the weeks. */
    private static final String FULL_MOUTH = "fields 2; mouth 1 100; 3*wave 5 0; weeks 1; border 1 2 = 20";

    private static void keptAsToldWhileNoWeekWentBy() {
        Runs.run("fields 2; wave 5 0; sand 0 1500; groyne 1 200 0; wall 1 100; feed 0 50; number 2; weeks 1",
            "look 0 0 = 1505; look 1 0 = 1000; look 1 2 = 10; without 0 0 = 150; without 2 0 = 148");
        Runs.run("fields 2; sand 0 5; sand 0 2000; groyne 1 9 9; groyne 1 300 50; wall 0 7; wall 0 0; number 9; number 4",
            "feed 0 3; feed 0 100; wave 5 0; weeks 1; border 0 3 = 20; border 1 3 = 17; look 0 0 = 2003; without 0 0 = 200");
        Runs.run("fields 2; mouth 1 5; mouth 1 50; wave 5 0; weeks 1; border 1 2 = 10; without 0 1 = 99");
        Runs.run("fields 2; wave 5 0; weeks 0; sand 0 2000; weeks 1; look 0 0 = 1985; without 0 0 = 198");
    }

    private static void barsOf0AtTheBegin() {
        Runs.run("fields 2; mouth 1 100; border 1 2 = 0; dredge 1 9999 0 = 0; look 0 0 = 1000; wave 5 0; weeks 1; border 1 2 = 20",
            "look 0 0 = 1000; without 0 0 = 100; without 0 1 = 98");
        // a dredging ahead of all weeks is told, yet the begin may still be told and the bar is still filled
        Runs.run("fields 2; mouth 1 100; wave 5 0; dredge 1 9999 0 = 0; sand 0 2000; mouth 1 50; weeks 1; border 1 2 = 17",
            "without 0 0 = 198");
    }

    private static void notToldBehindAWeek() {
        String built = "fields 2; groyne 1 150 50; wave 5 2; wave 5 0";
        String[] calls = {"sand 0 1200", "groyne 1 100 10", "groyne 1 0 0", "mouth 1 10", "wall 0 100", "feed 0 10", "feed 1 10",
            "number 9"};
        for (String call : calls) {
            Runs.run(built, call, "weeks 1; weeks 1; wave 3 2; weeks 1");
            Runs.run(built, "weeks 0", call);
            Runs.run(built, "weeks 1", call + " = false");
            Runs.run(built, "weeks 1", call + " = false", "weeks 1", call + " = false", "border 1 3 = 10; without 0 0 = 101");
        }
        Runs.run(built, "weeks 3 = none; weeks -1 = none; sand 0 1200");
    }

    private static void weeksGoneAreThoseToldInOrder() {
        Runs.run("fields 2; feed 0 0; wave 5 0; wave 9 2; wave 1 2; weeks 1; look 0 0 = 980; weeks 1; look 0 0 = 953",
            "weeks 1; look 0 0 = 960; count 2 = 3; weeks 1 = none; without 0 0 = 96");
        Runs.run("fields 2; feed 0 0; wave 5 0; wave 9 2; wave 1 2; weeks 3; look 0 0 = 960; without 0 0 = 96");
    }

    /** Waves of both sides, of which each call asks anew what the weeks themselves made of the begin. */
    private static void goneThroughAnewFromTheWholeBegin() {
        String behind = "; wave 5 0; wave 5 1; weeks 2; ";
        Runs.run("fields 2; sand 0 1500" + behind + "look 0 0 = 1470; without 0 0 = 147; survey 0 2 147 147; fits = 510");
        Runs.run("fields 2; wall 0 100" + behind + "look 0 0 = 1014; without 0 0 = 101; mark 0 101; works = 0");
        Runs.run("fields 2; wall 1 100; wave 9 2; weeks 1; line 1 = 100; without 0 1 = 100; survey 1 1 100 100; fits = 511; mark 1 100",
            "mark 0 97; works = 0; mark 0 98; works = none");
        Runs.run("fields 2; feed 0 0" + behind + "look 0 0 = 983; without 0 0 = 98; mark 0 98; works = 0; mark 0 99; works = none");
        Runs.run("fields 2; feed 1 0" + behind + "look 1 0 = 980; without 0 1 = 98; mark 1 98; works = 0; mark 1 99; works = none");
        Runs.run("fields 2; feed 1 200" + behind + "look 1 0 = 1020; without 0 1 = 102; survey 1 2 102 102; fits = 24");
        Runs.run("fields 2; number 9; feed 0 0; wave 5 0; weeks 1; look 0 0 = 955; without 0 0 = 95; mark 0 95; works = 0; mark 0 96; works = none");
        Runs.run("fields 2; groyne 1 999 0" + behind + "look 0 0 = 1000; without 0 0 = 100; look 1 0 = 1000; without 0 1 = 100");
        Runs.run("fields 2; mouth 1 100; wave 5 0; weeks 1; look 1 0 = 980; without 0 1 = 98; mark 1 98; works = 0; mark 1 99; works = none");
    }

    private static void dredgingIsDoneAnewBehindItsWeek() {
        Runs.run(FULL_MOUTH, "dredge 1 9999 1 = 20; look 1 0 = 1000; without 0 1 = 100; weeks 1; look 1 0 = 980",
            "without 0 0 = 100; without 0 1 = 98; dredge 1 15 0 = 15; look 0 0 = 1015; without 0 0 = 101; weeks 1",
            "look 0 0 = 1010; look 1 0 = 960; border 1 2 = 30; without 0 0 = 101; without 0 1 = 96",
            "dredge 1 9999 1 = 30; without 0 1 = 99");
        // undredged the slope of week 2 would take 23 from field 0
        Runs.run(FULL_MOUTH, "weeks 1; look 0 0 = 997; without 0 0 = 99");
        // two behind one week, in the order told
        Runs.run(FULL_MOUTH, "dredge 1 15 0 = 15; dredge 1 15 1 = 5; without 0 0 = 101; without 0 1 = 98");
        Runs.run(FULL_MOUTH, "dredge 1 15 1 = 15; dredge 1 15 0 = 5; without 0 0 = 100; without 0 1 = 99");
    }

    private static void asMuchAsIsThereThen() {
        // of 30 units asked for, K by K 5, 10, 15, 20, 25 and then 30 are there
        String dredged = FULL_MOUTH + "; dredge 1 30 0 = 20; survey 0 1 ";
        Runs.run(dredged + "100 100; fits = 1");
        Runs.run(dredged + "101 101; fits = 6");
        Runs.run(dredged + "102 102; fits = 24");
        Runs.run(dredged + "103 103; fits = 480");
        // the dam starves field 1, so only without it 6 units are in the bar, of 10 asked for
        Runs.run("fields 3; sand 1 0; sand 2 1005; groyne 1 999 0; mouth 2 100; 2*wave 6 0; weeks 2; border 2 2 = 0; line 2 = 95",
            "without 2 2 = 95; dredge 2 10 2 = 0; line 2 = 95; without 0 2 = 95; without 2 2 = 96");
    }

    private static void withoutGoesAsManyWeeksAsWentBy() {
        String told = "fields 2; groyne 1 999 0; wave 6 0; wave 6 0";
        Runs.run(told, "without 0 0 = 100; without 2 0 = 100; without 2 1 = 100");
        Runs.run(told, "weeks 1; without 0 0 = 102; without 0 1 = 97; without 2 0 = 100; without 2 1 = 100");
        Runs.run(told, "weeks 2; without 0 0 = 104; without 0 1 = 95; without 2 0 = 100; without 2 1 = 100");
        Runs.run(DAMS, "without 2 0 = 100; without 2 1 = 102; without 4 1 = 97; without 6 1 = 100; without 62 5 = 100",
            "without 32 5 = 100; without 30 5 = 97; without 32 4 = 97");
    }

    private static void shareOfSetsUpTo4() {
        // field 1 wins 2 lines by border 1 if 2 is still shut and 3 if not, and loses them likewise by border 2
        Runs.run(DAMS, "share 1 2 1 = 2; share 2 4 1 = -3; share 3 8 1 = 0");
        Runs.run(DAMS, "share 1 6 1 = 5; share 2 6 1 = -5");
        Runs.run(DAMS, "share 1 14 1 = 15; share 2 14 1 = -15; share 3 14 1 = 0");
        Runs.run(DAMS, "share 1 30 1 = 60; share 2 30 1 = -60; share 3 30 1 = 0; share 4 30 1 = 0");
        Runs.run(DAMS, "share 5 60 5 = 72; share 5 60 4 = -60; share 4 60 4 = 60; share 2 60 4 = 0");
        for (int border = 1; border <= 5; border++) {
            Runs.run(DAMS, "share " + border + " 62 1 = throws");
        }
        // 11 dams, 4 of them
        StringBuilder all = new StringBuilder("fields 12");
        for (int border = 1; border <= 11; border++) {
            all.append("; groyne ").append(border).append(" 999 0");
        }
        Runs.run(all.toString(), "wave 6 0; weeks 1; share 11 3840 11 = 72; share 11 3842 11 = throws; without 4094 11 = 100");
        Runs.run(all.toString(), "wave 6 0; weeks 1; share 1 2 0 = -2; share 1 30 0 = -48; share 1 4094 0 = throws");
    }

    private static void worksAtMost6() {
        String five = "fields 2; wave 9 2; work 0 0 1 1 = 0; work 0 0 1 1 = 1; work 0 0 1 1 = 2; work 0 0 1 1 = 3; work 0 0 1 1 = 4";
        Runs.run(five, "mark 0 100; works = none; work 0 0 27 1 = 5; works = 32; work 0 0 999 1 = none; count 3 = 6");
        Runs.run(five, "work 0 1 1 1 = 5; work 0 0 27 1 = none; mark 0 100; works = none; count 3 = 6; work 0 0 27 1 = none");
        Runs.run("fields 2; wave 5 2; 6*work 0 0 10 999; mark 0 106; works = 63; mark 0 107; works = none");
    }

    private static void worksBringFrom1To9999Units() {
        Runs.run("work 0 0 1 1 = 0; work 0 0 9999 1 = 1; work 0 0 0 1 = none; work 0 0 10000 1 = none; work 0 0 -1 1 = none; count 3 = 2");
        Runs.run("fields 2; sand 0 999; wave 5 2; mark 0 100; works = none; work 0 0 1 1; works = 1");
        Runs.run("fields 2; sand 0 1; wave 5 2; mark 0 1000; work 0 0 9998 1; works = none; work 0 0 9999 1; works = 2");
    }

    private static void worksMakeLengthsFrom1To999() {
        Runs.run("groyne 1 500 0; work 1 1 1 1 = 0; work 1 1 999 1 = 1; work 1 1 0 1 = none; work 1 1 1000 1 = none; count 3 = 2");
        Runs.run("fields 2; sand 0 9989; sand 1 9989; groyne 1 1 0; wave 5 0; mark 0 1000; work 1 1 998 1; works = none",
            "work 1 1 999 1; works = 2");
        Runs.run("fields 2; sand 0 10; sand 1 10; groyne 1 999 0; wave 5 0; mark 1 1; work 1 1 2 1; works = none",
            "work 1 1 1 1; works = 2");
        // the leak stays as it was
        Runs.run("fields 2; groyne 1 50 50; wave 5 0; mark 0 102; work 1 1 999 1; works = none; mark 0 101; works = 1");
    }

    private static void worksDoNothingWhereNoGroyneIs() {
        String told = "fields 2; wave 6 0; groyne 1 50 0; work 1 1 200 5 = 0; mark 0 101; works = 1";
        Runs.run(told, "groyne 1 0 0; works = none; border 1 0 = 0; groyne 1 50 0; works = 1; groyne 1 300 0; works = 0");
        Runs.run(told, "mouth 1 10; works = none; border 1 0 = 2; border 1 1 = 10");
        // if it told what the mouth keeps, less would go into the bar
        Runs.run("fields 2; wave 6 0; groyne 1 50 0; work 1 1 1 5 = 0; mouth 1 100; mark 1 100; works = none; mouth 1 0; works = 0");
        Runs.run("work 1 1 5 1 = none; mouth 1 5; work 1 1 5 1 = none; groyne 1 5 5; work 1 1 5 1 = 0; groyne 1 0 0; work 1 1 5 1 = none");
    }

    private static void worksPricesFrom1To999() {
        Runs.run("work 0 0 5 1 = 0; work 0 0 5 999 = 1; work 0 0 5 0 = none; work 0 0 5 1000 = none; work 0 0 5 -1 = none; count 3 = 2");
        Runs.run("groyne 1 5 5; work 1 1 5 1 = 0; work 1 1 5 999 = 1; work 1 1 5 0 = none; work 1 1 5 1000 = none; count 3 = 2");
        Runs.run("fields 2; wave 5 2; mark 0 101; work 0 0 10 999; work 0 0 10 998; works = 2; work 0 0 10 1; works = 4");
    }

    private static void marksFrom0To9999() {
        Runs.run("fields 2; sand 0 0; sand 1 0; wave 5 2; works = 0; mark 0 1; works = none; mark 0 0; works = 0");
        Runs.run("fields 2; sand 1 99990; wave 5 2; mark 1 9999; works = 0");
        Runs.run("fields 2; sand 1 99989; wave 5 2; mark 1 9999; works = none; mark 1 9998; works = 0");
        Runs.run("fields 2; wave 5 2; mark 0 -1 = false; mark 0 10000 = false; works = 0");
        Runs.run("fields 2; wave 5 2; mark 0 101; mark 0 -1 = false; mark 0 10000 = false; works = none; work 0 0 10 1; works = 1");
    }

    private static void keptBehindEachWeekTold() {
        for (int field = 0; field < 6; field++) {
            String mark = "mark " + field + " ";
            // the line is 97 behind the week of the storm alone
            Runs.run("wave 9 2; 9*wave 0 2", mark + "98; works = none", mark + "97; works = 0");
            Runs.run("wave 5 2; wave 9 2; 9*wave 0 2", mark + "98; works = none", mark + "97; works = 0");
            Runs.run("wave 5 2; wave 9 2", mark + "98; works = none", mark + "97; works = 0");
            Runs.run("wave 5 2; weeks 1; wave 9 2", mark + "98; works = none", mark + "97; works = 0; count 2 = 1");
            Runs.run("119*wave 5 2; wave 9 2", mark + "98; works = none", mark + "97; works = 0");
        }
        Runs.run("fields 2; mark 0 101; works = 0; wave 5 2; works = none");
        Runs.run("fields 2; sand 0 990; feed 0 200; wave 5 0; mark 0 100; works = 0; mark 0 101; works = 0; mark 0 102; works = none");
        Runs.run(FULL_MOUTH, "mark 1 96; works = none; dredge 1 9999 1; works = 0; mark 1 97; works = none");
        Runs.run("fields 2; mouth 1 100; wave 5 0; weeks 1; mark 1 100; works = none; dredge 1 19 1; works = none; dredge 1 1 1; works = 0");
    }

    private static void laterToldOfTwoForOneGroyne() {
        // the length 200 holds the sand, 60 does not; nobody pays for a work that another one undoes
        Runs.run("fields 2; groyne 1 50 0; wave 6 0; mark 0 101; work 1 1 200 5; work 1 1 60 1; works = 1");
        Runs.run("fields 2; groyne 1 50 0; wave 6 0; mark 0 101; work 1 1 60 1; work 1 1 200 5; works = 2");
        Runs.run("fields 2; groyne 1 50 0; wave 6 0; mark 0 101; work 1 1 60 1; work 1 1 60 1; works = none");
        Runs.run("fields 3; groyne 1 50 0; groyne 2 50 0; wave 6 0; mark 0 101; mark 1 100; work 1 1 200 5; work 1 2 200 7; works = 3");
    }

    private static void cheapestThenLeastNumber() {
        String told = "fields 2; wave 5 2; mark 0 102; ";
        Runs.run(told + "work 0 0 20 3; work 0 0 20 3; works = 1");
        Runs.run(told + "work 0 0 20 4; work 0 0 20 3; works = 2");
        Runs.run(told + "work 0 0 10 2; work 0 0 10 3; work 0 0 20 5; works = 3");
        Runs.run(told + "work 0 0 20 5; work 0 0 10 2; work 0 0 10 3; works = 1");
        Runs.run(told + "work 0 0 10 2; work 0 0 10 3; work 0 0 20 4; works = 4");
        Runs.run(told + "work 0 0 10 1; work 0 0 5 1; work 0 0 5 1; work 0 0 20 3; works = 7");
        Runs.run(told + "work 0 0 10 1; work 0 0 5 1; work 0 0 5 1; work 0 0 20 2; works = 8");
        Runs.run(told + "work 0 0 9999 999; works = 1; mark 0 100; works = 0");
    }

    private static void surveysAtMost20() {
        Runs.run("fields 2; wave 5 2; 19*survey 0 1 100 100; survey 0 1 100 100 = 20; survey 0 1 5 5 = none; fits = 511; count 4 = 20");
        Runs.run("fields 2; wave 5 2; 19*survey 0 1 100 100; fits = 511; survey 0 1 5 5 = 20; fits = 0; survey 0 1 5 5 = none; count 4 = 20");
    }

    private static void surveysOfWeeks1To120() {
        Runs.run("survey 0 1 5 5 = 1; survey 0 120 5 5 = 2; survey 0 0 5 5 = none; survey 0 121 5 5 = none; survey 0 -1 5 5 = none; count 4 = 2");
        String all = "fields 2; wave 9 2; 118*wave 5 2; wave 0 2; ";
        Runs.run(all + "survey 0 1 97 97; survey 0 119 97 97; survey 0 120 98 98; fits = 511");
        Runs.run(all + "survey 0 1 98 98; fits = 0");
        Runs.run(all + "survey 0 119 98 98; fits = 0");
        Runs.run(all + "survey 0 120 97 97; fits = 0");
    }

    private static void surveysFromTo() {
        String[] fitting = {"100 100", "99 100", "100 101", "0 100", "100 9999", "0 9999"};
        String[] missing = {"101 101", "99 99", "101 9999", "0 99", "0 0", "9999 9999"};
        for (int field = 0; field < 6; field++) {
            for (String lines : fitting) {
                Runs.run("wave 5 2; survey " + field + " 1 " + lines + " = 1; fits = 511");
            }
            for (String lines : missing) {
                Runs.run("wave 5 2; survey " + field + " 1 " + lines + " = 1; fits = 0");
            }
        }
        Runs.run("sand 3 9; sand 4 99990; wave 5 2; survey 3 1 0 0; survey 4 1 9999 9999; fits = 511");
    }

    private static void surveysCountWhatIsDredged() {
        String told = "fields 2; number 9; mouth 1 100; wave 5 0; weeks 1; ";
        Runs.run(told + "survey 0 1 101 9999; fits = 0; dredge 1 10 0 = 10; fits = 510");
        Runs.run(told + "survey 1 1 100 100; fits = 0; dredge 1 9999 1 = 45; fits = 511");
    }

    private static void surveysOfWeeksThatAreTold() {
        Runs.run("fields 2; survey 0 2 5 5; fits = 511; wave 5 2; fits = 511; wave 5 2; fits = 0");
        Runs.run("fields 2; survey 0 2 5 5; 2*wave 5 2; weeks 1; fits = 0; weeks 1; fits = 0");
        Runs.run("fields 2; survey 0 1 100 100; survey 0 3 5 5; 2*wave 5 2; fits = 511; wave 5 2; fits = 0");
        Runs.run("fields 2; 119*wave 5 2; survey 0 120 5 5; fits = 511; wave 5 2; fits = 0");
    }

    /** Behind the week field 0 has 1000 - 5K: the lines 99, 99, 98, 98, 97, 97, 96, 96, 95. */
    private static void whichNumbersFit() {
        for (int k : new int[] {1, 4, 9}) {
            String told = "fields 2; feed 0 0; number " + k + "; wave 5 0; survey 0 1 ";
            Runs.run(told + "99 99; fits = 3");
            Runs.run(told + "98 98; fits = 12");
            Runs.run(told + "95 95; fits = 256");
            Runs.run(told + "95 99; fits = 511");
            Runs.run(told + "96 99; fits = 255");
            Runs.run(told + "95 98; fits = 508");
            Runs.run(told + "96 98; survey 0 1 97 99; fits = 60");
            Runs.run(told + "100 100; fits = 0");
        }
    }

    private static void dredgedAsManyAsThereAre() {
        Runs.run(FULL_MOUTH, "dredge 1 19 0 = 19; look 0 0 = 1019; border 1 2 = 1; dredge 1 1 0 = 1; look 0 0 = 1020; border 1 2 = 0");
        Runs.run(FULL_MOUTH, "dredge 1 20 0 = 20; look 0 0 = 1020; border 1 2 = 0; dredge 1 1 0 = 0; look 0 0 = 1020; count 5 = 2");
        Runs.run(FULL_MOUTH, "dredge 1 21 0 = 20; look 0 0 = 1020; border 1 2 = 0");
        Runs.run(FULL_MOUTH, "dredge 1 9999 1 = 20; look 1 0 = 1000; look 0 0 = 1000; border 1 2 = 0; count 6 = 2000");
    }

    public static void main(String[] args) {
        Runs.sentence("THE BEGIN is kept as told while no WEEK has gone by", BeginTest::keptAsToldWhileNoWeekWentBy);
        Runs.sentence("BARS of 0", BeginTest::barsOf0AtTheBegin);
        Runs.sentence("no more may be told of the BEGIN then", BeginTest::notToldBehindAWeek);
        Runs.sentence("the WEEKS that go by are those told, in order", BeginTest::weeksGoneAreThoseToldInOrder);
        Runs.sentence("What follows goes through WEEKS anew from it", BeginTest::goneThroughAnewFromTheWholeBegin);
        Runs.sentence("with DREDGING behind the same WEEK each time", BeginTest::dredgingIsDoneAnewBehindItsWeek);
        Runs.sentence("(as much as is there then)", BeginTest::asMuchAsIsThereThen);
        Runs.sentence("WITHOUT: as many WEEKS as went by, from the BEGIN", BeginTest::withoutGoesAsManyWeeksAsWentBy);
        Runs.sentence("SHARE of a set of them (4 at most), told times the number of orders", BeginTest::shareOfSetsUpTo4);
        Runs.sentence("WORKS, 6 at most", BeginTest::worksAtMost6);
        Runs.sentence("sand brought to a FIELD at the BEGIN (1 to 9999 units)", BeginTest::worksBringFrom1To9999Units);
        Runs.sentence("or a GROYNE's length made another one at the BEGIN", BeginTest::worksMakeLengthsFrom1To999);
        Runs.sentence("(nothing where there is none)", BeginTest::worksDoNothingWhereNoGroyneIs);
        Runs.sentence("each a price (1 to 999)", BeginTest::worksPricesFrom1To999);
        Runs.sentence("MARKS: a least LINE (0 to 9999; 0 at first)", BeginTest::marksFrom0To9999);
        Runs.sentence("of two for one GROYNE the later told", BeginTest::laterToldOfTwoForOneGroyne);
        Runs.sentence("behind each of all WEEKS told every LINE is its MARK at least", BeginTest::keptBehindEachWeekTold);
        Runs.sentence("the least price; of equal ones the least number (bits)", BeginTest::cheapestThenLeastNumber);
        Runs.sentence("SURVEYS, 20 at most", BeginTest::surveysAtMost20);
        Runs.sentence("behind a WEEK (1 to 120)", BeginTest::surveysOfWeeks1To120);
        Runs.sentence("from .. to its LINE was", BeginTest::surveysFromTo);
        Runs.sentence("(and what is DREDGED behind it)", BeginTest::surveysCountWhatIsDredged);
        Runs.sentence("all SURVEYS of WEEKS that are told are so", BeginTest::surveysOfWeeksThatAreTold);
        Runs.sentence("K FITS if from the BEGIN, with that K", BeginTest::whichNumbersFit);
        Runs.sentence("DREDGED: as many as there are at most", BeginTest::dredgedAsManyAsThereAre);
        Runs.end();
    }
}
