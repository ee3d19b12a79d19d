/** Boundary cases of promises 28 to 32: how many, what he is, two, storms, shares. */
final class EdgesOfHowMany {
    /** What is skipped in a row of bytes, of shorts, of ints. */
    static final int[] LEAST_OF_SORT = {-128, -32768, Integer.MIN_VALUE};

    private static final int[] NO_SHELF = {-1, 8, Integer.MIN_VALUE, Integer.MAX_VALUE};
    private static final int[] NEITHER_0_NOR_1 = {-1, 2, Integer.MIN_VALUE, Integer.MAX_VALUE};
    private static final long HIGH = 1000000001L;

    private EdgesOfHowMany() {
    }

    static void all() {
        howMany();
        howManySkips();
        howManyRefused();
        whatIs();
        whatIsSkips();
        whatIsRefused();
        two();
        twoAndOthers();
        storm();
        stormRefused();
        mean();
    }

    private static void howManyDue(Run x, int dip, int number, int least, int greatest) {
        x.due("howMany(0, " + dip + ", 0)", number).due("howMany(0, " + dip + ", 1)", least);
        x.due("howMany(0, " + dip + ", 2)", greatest);
    }

    private static void howMany() {
        Edge.ofTerms("HOW MANY: a ROW tells DONE of a DIP behind 0, 1, .. DAYS",
            "how many numbers of GRAINS (from what is DONE of it now up to 999) it could have now by which all of it is so; "
                + "the least; the greatest (-4 none).");
        Run x = Run.of("c0000;c0190;d03;").tell(0, 1);
        howManyDue(x, 0, 970, 30, 999);
        howManyDue(x, 9, 967, 33, 999);
        howManyDue(x, 5, 1000, 0, 999);
        howManyDue(x.tell(0, 1, 30), 0, 970, 30, 999);
        howManyDue(x.tell(0, 1, 29), 0, 0, -4, -4);
        howManyDue(x.tell(0, 1, 31), 0, 0, -4, -4);
        howManyDue(x.tell(0, 1, 30, 30), 0, 1, 30, 30);
        howManyDue(x.tell(0, 1, 30, 39), 0, 1, 39, 39);
        howManyDue(x.tell(0, 1, 30, 40), 0, 960, 40, 999);
        howManyDue(x.tell(0, 1, 30, 41), 0, 0, -4, -4);
        howManyDue(x.tell(0, 1, 30, 40, 50, 59), 0, 1, 59, 59);
        howManyDue(x.tell(0, 1, 30, 40, 50, 60), 0, 940, 60, 999);
        // All 999 are DONE; there is one number left.
        Run full = Run.of("c5000;g0999;d07;").due("dip(0, 1)", 999);
        howManyDue(full.tell(0, 1), 0, 1, 999, 999);
        howManyDue(full.tell(0, 1, 999), 0, 1, 999, 999);
        howManyDue(full.tell(0, 1, 998), 0, 0, -4, -4);
        howManyDue(Run.of("c2000;").tell(0, 1, 0, 500), 0, 1, 999, 999);
        howManyDue(Run.of("c2000;").tell(0, 1, 0, 1), 0, 2, 1, 2);
        howManyDue(Run.of("c2000;").tell(0, 1, 0, 0), 0, 1, 0, 0);
        howManyDue(Run.of("c2000;r0;").tell(0, 1, 0, 0), 0, 1000, 0, 999);
        // Behind each count the WIND takes 9: with less than 38 some of the 20 would be among them.
        howManyDue(Run.of("c0000;w9;").tell(0, 1, 0, 10, 20), 0, 962, 38, 999);
        x.due("dip(0, 0)", 100).due("dip(9, 0)", 100);
    }

    private static void howManySkips() {
        Edge.ofTerms("(the least number of the SORT is skipped):");
        for (int sort = 0; sort <= 2; sort++) {
            int least = LEAST_OF_SORT[sort];
            howManyDue(Run.of("c0000;").tell(0, sort, least), 0, 1000, 0, 999);
            howManyDue(Run.of("c0000;").tell(0, sort, least, 10, least), 0, 990, 10, 999);
            howManyDue(Run.of("c0000;").tell(0, sort, least, least, 15), 0, 1, 15, 15);
            howManyDue(Run.of("c0000;").tell(0, sort, 0, least, 15), 0, 1, 15, 15);
            howManyDue(Run.of("c0000;").tell(0, sort, least + 1), 0, 0, -4, -4);
            howManyDue(Run.of("c0000;").tell(0, sort, -1), 0, 0, -4, -4);
            for (int other = 0; other < sort; other++) {
                howManyDue(Run.of("c0000;").tell(0, sort, LEAST_OF_SORT[other]), 0, 0, -4, -4);
            }
            // The last of 100 elements is told, too.
            Run x = Run.of("c0900;").does("row(0, " + sort + ", 100)");
            for (int i = 0; i < 99; i++) {
                x.does("put(0, " + i + ", " + least + ")");
            }
            howManyDue(x.does("put(0, 99, 120)"), 0, 1, 120, 120);
            howManyDue(x.does("put(0, 99, " + least + ")"), 0, 1000, 0, 999);
        }
    }

    private static void howManyRefused() {
        Edge.of(28, "HOW MANY by the ROW in SHELF d: how many numbers (what 0), the least (1; -4), the greatest (2; -4). "
            + "-1, -11, -12 (no ROW).");
        Run x = new Run().does("row(0, 0, 0)", "row(7, 2, 0)", "keep(2, 1, 0, 0)");
        x.due("howMany(0, 9, 2)", 999).due("howMany(7, 0, 0)", 1000).due("howMany(1, 0, 0)", -11).due("howMany(2, 0, 0)", -12);
        for (int bad : NO_SHELF) {
            x.due("howMany(" + bad + ", 0, 0)", -1);
        }
        for (int bad : new int[] {-1, 10, Integer.MIN_VALUE, Integer.MAX_VALUE}) {
            x.due("howMany(0, " + bad + ", 0)", -1);
        }
        for (int bad : new int[] {-1, 3, Integer.MIN_VALUE, Integer.MAX_VALUE}) {
            x.due("howMany(0, 0, " + bad + ")", -1);
        }
    }

    private static void whatIsDue(Run x, int c, int kinds, int figures) {
        x.due("whatIs(0, " + c + ", 0)", kinds).due("whatIs(0, " + c + ", 1)", figures);
    }

    private static void whatIs() {
        Edge.ofTerms("WHAT HE IS: a ROW tells the BOOK of a CORPORAL behind 0, 1, .. DAYS: KINDS (bits) of him; FIGURES (bits 0 .. 9).");
        Run x = Run.of("c0000;c0091;");
        whatIsDue(x.tell(0, 1), 0, 255, 1023);
        whatIsDue(x.tell(0, 1, 0), 0, 255, 1023);
        whatIsDue(x.tell(0, 1, 1), 0, 0, 0);
        // With FIGURE 0 the kinds write 10, 9, 50, 5, 5, 100, 0 and 1 on the first DAY; a CORPORAL writes 10 to 19.
        int[][] due = {{0, 64, 0}, {1, 128, 0}, {2, 0, 0}, {5, 8 + 16, 0}, {9, 2, 0}, {10, 1, 1}, {11, 0, 2}, {18, 0, 256}, {19, 0, 512},
            {20, 0, 0}, {50, 4, 0}, {100, 32, 0}};
        for (int[] book : due) {
            whatIsDue(x.tell(0, 1, 0, book[0]), 0, book[1], book[2]);
            whatIsDue(x.tell(0, 1, 0, book[0]), 1, book[1], book[2]);
        }
        whatIsDue(x.tell(0, 1, 0, 10, 20, 30), 0, 1, 1);
        whatIsDue(x.tell(0, 1, 0, 10, 20, 31), 0, 0, 0);
        whatIsDue(Run.of("c7900;").tell(0, 1, 0, 10), 0, 128 + 16, 512);
        whatIsDue(Run.of("c0000;r0;").tell(0, 1, 0, 0), 0, 255, 1023);
        whatIsDue(Run.of("c0000;d02;").tell(0, 1, 20, 25), 0, 8 + 16, 0);
        x.due("corporal(0, 0)", 0).due("corporal(0, 1)", 0);
    }

    private static void whatIsSkips() {
        Edge.ofTerms("(the least number of the SORT is skipped):");
        for (int sort = 0; sort <= 2; sort++) {
            int least = LEAST_OF_SORT[sort];
            whatIsDue(Run.of("c0000;").tell(0, sort, least, least), 0, 255, 1023);
            whatIsDue(Run.of("c0000;").tell(0, sort, least, 19), 0, 0, 512);
            whatIsDue(Run.of("c0000;").tell(0, sort, 0, least, 2), 0, 128, 0);
            whatIsDue(Run.of("c0000;").tell(0, sort, least + 1), 0, 0, 0);
            for (int other = 0; other < sort; other++) {
                whatIsDue(Run.of("c0000;").tell(0, sort, LEAST_OF_SORT[other]), 0, 0, 0);
            }
            Run x = Run.of("c7090;").does("row(0, " + sort + ", 100)");
            for (int i = 0; i < 99; i++) {
                x.does("put(0, " + i + ", " + least + ")");
            }
            whatIsDue(x.does("put(0, 99, 99)"), 0, 128, 1);
        }
    }

    private static void whatIsRefused() {
        Edge.of(29, "WHAT HE IS by the ROW in SHELF d: KINDS (what 0), FIGURES (1), bits. -1, -11, -12.");
        Run x = Run.of("c0000;c0000;").does("row(0, 0, 0)", "row(7, 2, 0)", "keep(2, 1, 0, 0)");
        x.due("whatIs(0, 1, 1)", 1023).due("whatIs(7, 0, 0)", 255).due("whatIs(1, 0, 0)", -11).due("whatIs(2, 0, 0)", -12);
        for (int bad : NO_SHELF) {
            x.due("whatIs(" + bad + ", 0, 0)", -1);
        }
        for (int bad : new int[] {-1, 2, 6, Integer.MIN_VALUE, Integer.MAX_VALUE}) {
            x.due("whatIs(0, " + bad + ", 0)", -1);
        }
        for (int bad : NEITHER_0_NOR_1) {
            x.due("whatIs(0, 0, " + bad + ")", -1);
        }
        new Run().does("row(0, 0, 0)").due("whatIs(0, 0, 0)", -1);
    }

    private static void twoDue(String text, int want) {
        Check.due("two(0, 1) of " + text, String.valueOf(want), Run.of(text).answer("two(0, 1)"));
    }

    private static void two() {
        Edge.ofTerms("TWO CORPORALS (neither RESTS then) each count (1) or write 15 in their BOOK a DAY, count nothing and stay (0), "
            + "for 5 DAYS: each has what is more in his BOOK, less 20, if he wrote and the other one counted: the first pair "
            + "(10 the one's and the other's; 0 first) by which neither has more by another choice alone; -4.");
        // Counting brings 5 times 10 and FIGURE; writing 75, and 55 beside one who counts.
        int[][] due = {{0, 0, 0}, {5, 5, 0}, {5, 1, 0}, {0, 6, 1}, {1, 6, 1}, {2, 6, 11}, {6, 0, 10}, {6, 1, 10}, {6, 2, 11}, {5, 6, 11},
            {6, 5, 11}, {9, 9, 11}, {1, 9, 1}, {9, 1, 10}};
        for (int[] figures : due) {
            String text = "c0" + figures[0] + "00;c0" + figures[1] + "91;";
            twoDue(text, figures[2]);
            twoDue(text + "r0;", figures[2]);
            twoDue(text + "r0;r1;", figures[2]);
            twoDue(text + "d01;f;", figures[2]);
            // The same two with others ahead of them, and told the other way round.
            Run x = Run.of("c0050;c0050;c0" + figures[0] + "00;c0" + figures[1] + "91;r2;r3;").due("two(2, 3)", figures[2]);
            x.due("two(3, 2)", figures[2] % 10 * 10 + figures[2] / 10);
        }
        // 76 is one more than 75, 56 than 55; 5 DAYS are needed for them.
        twoDue("c0600;g0075;c0091;", 0);
        twoDue("c0600;g0076;c0091;", 10);
        twoDue("c0200;g0055;c0991;", 1);
        twoDue("c0200;g0056;c0991;", 11);
        // 5 DAYS: a SLEEPER with FIGURE 9 counts on 2 of them or on 3; neither is as much as writing.
        twoDue("c6900;c5091;", 1);
        twoDue("c5000;c6991;d01;", 10);
        twoDue("c5090;c5001;g9037;g0037;", 0);
        twoDue("c5090;c5001;g9038;g0037;", 11);
        twoDue("c5090;c5001;g9038;g0027;", 10);
        twoDue("c5090;c5001;g9038;g0028;", 11);
    }

    private static void twoAndOthers() {
        // What one does there is missing for the other one, and who writes stays: none is content by any pair.
        twoDue("c2030;c0240;g3005;g4107;", -4);
        // Who writes stays, though nothing is left there that is not DONE: so DIP 6 is free behind 2 DAYS for who comes from 7.
        twoDue("c0971;c7050;g7038;g5000;", 10);
        twoDue("c0920;c7041;g2038;g4000;", 10);
        // BOOKS of 9999 at most: writing and counting bring nothing more to the first.
        Run x = Run.of("c5000;");
        for (int i = 0; i < 10; i++) {
            x.does("fills(0, 999)", "moves(0, 0)", "days(1)");
        }
        x.due("corporal(0, 4)", 9999).does("keep(0, 1, 7, 0)", "comes(0, 9, 1)", "fills(0, 999)", "moves(0, 0)");
        x.due("two(0, 1)", 0).due("two(1, 0)", 0).does("keep(0, 1, 0, 9)", "comes(0, 9, 1)", "moves(1, 5)");
        // Beside one who counts he would have 20 less by writing, and nothing less by counting.
        x.due("two(0, 2)", 11).due("two(2, 0)", 11).does("flood()").due("two(0, 1)", 10).due("two(1, 0)", 1);
        Edge.of(30, "TWO; -4. -1 (one twice).");
        x = Run.of("c0000;c0900;");
        for (int bad : new int[] {-1, 2, 6, Integer.MIN_VALUE, Integer.MAX_VALUE}) {
            x.due("two(" + bad + ", 0)", -1).due("two(0, " + bad + ")", -1).due("two(" + bad + ", " + bad + ")", -1);
        }
        x.due("two(0, 0)", -1).due("two(1, 1)", -1).due("two(0, 1)", 1).due("two(1, 0)", 10);
    }

    private static void stormDue(Run x, String call, long above, long below) {
        x.due("storm(" + call + ", 0)", above).due("storm(" + call + ", 1)", below);
    }

    private static void storm() {
        Edge.ofTerms("STORM: in each of n DAYS (0 .. 7), by itself, WIND is 9 to greater DIPS with odds 1 in t (2 .. 20): "
            + "how likely a DIP is DONE behind these: a fraction in least terms.");
        Run x = Run.of("g0009;g5000;");
        stormDue(x, "0, 0, 2", 0, 1);
        stormDue(x, "5, 0, 20", 1, 1);
        stormDue(x, "0, 1, 2", 1, 2);
        stormDue(x, "0, 1, 20", 1, 20);
        stormDue(x, "0, 2, 2", 3, 4);
        stormDue(x, "0, 2, 20", 39, 400);
        stormDue(x, "0, 7, 2", 127, 128);
        stormDue(x, "0, 7, 20", 1280000000L - 893871739L, 1280000000L);
        stormDue(x, "9, 7, 20", 0, 1);
        stormDue(x, "1, 7, 20", 0, 1);
        // Without GRAINS at first; a storm brings some from DIP 4.
        stormDue(x, "5, 1, 20", 19, 20);
        stormDue(x, "5, 2, 2", 1, 4);
        // On the other DAYS WIND is what it is now.
        stormDue(Run.of("g0009;w9;"), "0, 1, 20", 1, 1);
        stormDue(Run.of("g0009;e9;"), "0, 1, 20", 1, 20);
        stormDue(Run.of("g0010;e9;"), "0, 1, 20", 0, 1);
        stormDue(Run.of("g0019;w5;"), "0, 3, 3", 19, 27);
        stormDue(Run.of("g0000;e1;"), "0, 1, 20", 1, 20);
        x.does("fills(0, 63)");
        stormDue(x, "0, 6, 20", 0, 1);
        stormDue(x, "0, 7, 20", 1, 1280000000L);
        stormDue(x, "0, 7, 2", 1, 128);
        x.does("fills(0, 64)");
        stormDue(x, "0, 7, 2", 0, 1);
        x.does("fills(0, 54)");
        // By 6 or 7 storms: 8 of 128.
        stormDue(x, "0, 7, 2", 1, 16);
        x.due("count(6)", 9);
    }

    private static void stormRefused() {
        Edge.of(31, "STORM; part 0 above, 1 below the line. Refused as told: -1.");
        Run x = Run.of("g0000;").due("storm(0, 0, 2, 0)", 1).due("storm(0, 7, 20, 1)", 1).due("storm(9, 7, 2, 1)", 1);
        for (int bad : new int[] {-1, 10, Integer.MIN_VALUE, Integer.MAX_VALUE}) {
            x.due("storm(" + bad + ", 0, 2, 0)", HIGH).due("storm(" + bad + ", 0, 2, 1)", HIGH);
        }
        for (int bad : new int[] {-1, 8, Integer.MIN_VALUE, Integer.MAX_VALUE}) {
            x.due("storm(0, " + bad + ", 2, 0)", HIGH).due("storm(0, " + bad + ", 2, 1)", HIGH);
        }
        for (int bad : new int[] {-1, 0, 1, 21, Integer.MIN_VALUE, Integer.MAX_VALUE}) {
            x.due("storm(0, 0, " + bad + ", 0)", HIGH).due("storm(0, 0, " + bad + ", 1)", HIGH);
        }
        for (int bad : NEITHER_0_NOR_1) {
            x.due("storm(0, 0, 2, " + bad + ")", HIGH);
        }
    }

    private static void meanDue(Run x, int above, int below) {
        x.due("mean(0)", above).due("mean(1)", below);
    }

    private static void mean() {
        Edge.ofTerms("MEAN GRAINS of DIPS: a fraction in least terms.");
        meanDue(new Run(), 100, 1);
        meanDue(Run.withGrains("f;"), 0, 1);
        int[][] due = {{1, 1, 10}, {2, 1, 5}, {3, 3, 10}, {4, 2, 5}, {5, 1, 2}, {6, 3, 5}, {7, 7, 10}, {8, 4, 5}, {9, 9, 10}, {10, 1, 1},
            {999, 999, 10}};
        for (int[] grains : due) {
            meanDue(Run.withGrains("f;", 0, grains[0]), grains[1], grains[2]);
            meanDue(Run.withGrains("f;", 9, grains[0]), grains[1], grains[2]);
        }
        Run full = new Run();
        for (int dip = 0; dip < 10; dip++) {
            full.does("fills(" + dip + ", 999)");
        }
        meanDue(full, 999, 1);
        Edge.of(32, "MEAN GRAINS; part likewise. Refused as told: -1.");
        for (int bad : NEITHER_0_NOR_1) {
            full.due("mean(" + bad + ")", HIGH);
        }
    }
}
