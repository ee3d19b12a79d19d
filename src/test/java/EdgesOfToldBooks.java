/** Boundary cases of promises 33 to 38: told books, deserts by seeds, the image, what is told. */
final class EdgesOfToldBooks {
    private static final int[] NO_SHELF = {-1, 8, Integer.MIN_VALUE, Integer.MAX_VALUE};
    private static final int[] NEITHER_0_NOR_1 = {-1, 2, Integer.MIN_VALUE, Integer.MAX_VALUE};

    private EdgesOfToldBooks() {
    }

    static void all() {
        forged();
        judged();
        judgedSkips();
        deserts();
        draws();
        eachFromNow();
        image();
        restored();
        count();
    }

    private static void forgedDue(Run x, int want, int sort, int... told) {
        x.tell(0, sort, told).due("forged(0)", want);
    }

    private static void forged() {
        Edge.ofTerms("FORGED: a ROW tells DONE of DIPS 0, 1, ..: the first that can not be (below 0, above its GRAINS, no such DIP); -4.");
        Run x = Run.of("g0000;g1999;g9001;");
        forgedDue(x, -4, 0);
        forgedDue(x, -4, 1, 0);
        forgedDue(x, -4, 1, 0, 999);
        forgedDue(x, 0, 1, 1);
        forgedDue(x, 0, 1, -1);
        forgedDue(x, 1, 1, 0, 1000);
        forgedDue(x, 1, 1, 0, -1, -1);
        forgedDue(x, 2, 1, 0, 999, 101, 101);
        forgedDue(x, -4, 1, 0, 999, 100, 100, 100, 100, 100, 100, 100, 1);
        forgedDue(x, 9, 1, 0, 999, 100, 100, 100, 100, 100, 100, 100, 2);
        forgedDue(x, 9, 1, 0, 0, 0, 0, 0, 0, 0, 0, 0, 2, 0);
        forgedDue(x, 10, 1, 0, 0, 0, 0, 0, 0, 0, 0, 0, 0, 0);
        forgedDue(x, 10, 1, 0, 999, 100, 100, 100, 100, 100, 100, 100, 1, 0, 0);
        x.does("row(0, 2, 100)").due("forged(0)", 10);
        new Run().tell(0, 1, 7, 101).does("fills(0, 7)", "fills(1, 101)").due("forged(0)", -4).does("fills(0, 6)").due("forged(0)", 0);
        // Nothing is skipped here: the least number of a SORT is below 0.
        for (int sort = 0; sort <= 2; sort++) {
            forgedDue(x, 1, sort, 0, EdgesOfHowMany.LEAST_OF_SORT[sort]);
        }
        forgedDue(x, 1, 2, 0, Integer.MAX_VALUE);
        // By its GRAINS, not by what is DONE of them.
        Run.of("c0000;d02;").tell(0, 1, 100).due("forged(0)", -4).tell(0, 1, 0).due("forged(0)", -4).tell(0, 1, 101).due("forged(0)", 0);
        Edge.of(33, "FORGED by the ROW in SHELF d; -4. -1, -11, -12.");
        refusedByRows(x, "forged");
    }

    private static void refusedByRows(Run x, String name) {
        x.does("keep(2, 1, 0, 0)", "row(7, 0, 0)");
        for (int bad : NO_SHELF) {
            x.due(name + "(" + bad + ")", -1);
        }
        x.due(name + "(1)", -11).due(name + "(2)", -12).due(name + "(7)", -4);
        x.does("keep(7, 0, 0, 0)").due(name + "(7)", -11);
    }

    private static void judgedDue(Run x, int want, int sort, int... told) {
        x.tell(0, sort, told).due("judge(0)", want);
    }

    private static void judged() {
        Edge.ofTerms("JUDGED: a ROW tells all BOOKS together behind 0, 1, .. DAYS: the first that is not so (skipped likewise); -4.");
        Run x = Run.of("c0000;c0190;g0015;");
        judgedDue(x, -4, 1);
        judgedDue(x, -4, 1, 0);
        judgedDue(x, 0, 1, 1);
        judgedDue(x, 0, 1, -1);
        judgedDue(x, -4, 1, 0, 21, 37, 58);
        judgedDue(x, 1, 1, 0, 20, 37, 58);
        judgedDue(x, 1, 1, 0, 22, 37, 0);
        judgedDue(x, 3, 1, 0, 21, 37, 57);
        judgedDue(new Run(), -4, 0, 0, 0, 0, 0);
        judgedDue(new Run(), 3, 0, 0, 0, 0, 1);
        x.does("days(1)");
        judgedDue(x, -4, 1, 21, 37);
        judgedDue(x, 0, 1, 0, 21);
        Edge.of(34, "JUDGED by the ROW in SHELF d; -4. -1, -11, -12.");
        refusedByRows(x, "judge");
        x.does("row(7, 0, 1)").due("judge(7)", 0);
    }

    private static void judgedSkips() {
        Edge.ofTerms("(skipped likewise); -4.");
        for (int sort = 0; sort <= 2; sort++) {
            int least = EdgesOfHowMany.LEAST_OF_SORT[sort];
            judgedDue(Run.of("c0000;"), -4, sort, least);
            judgedDue(Run.of("c0000;"), -4, sort, least, 10, least, 30);
            judgedDue(Run.of("c0000;"), 3, sort, least, 10, least, 31);
            judgedDue(Run.of("c0000;"), 0, sort, least + 1, 10);
            for (int other = 0; other < sort; other++) {
                judgedDue(Run.of("c0000;"), 0, sort, EdgesOfHowMany.LEAST_OF_SORT[other]);
            }
            Run x = EdgesOfDesert.lastDay("c7090;").does("row(0, " + sort + ", 100)");
            for (int i = 0; i < 99; i++) {
                x.does("put(0, " + i + ", " + least + ")");
            }
            x.does("put(0, 99, 99)").due("judge(0)", -4).does("put(0, 99, 98)").due("judge(0)", 99).due("count(1)", 999);
        }
    }

    private static void bothDue(Run x, String call, int of0, int of1) {
        x.due(call + ", 0)", of0).due(call + ", 1)", of1);
    }

    private static void deserts() {
        Edge.ofTerms("DESERTS with a seed z: n (1 .. 20), each from now: GRAINS of each DIP, by numbers, a DRAW below 200 (nothing DONE), "
            + "then 10 DAYS: DIPS DONE together; all BOOKS more of all together.");
        // Seed 0 draws 0 68 188 117 98 127 45 141 122 10, then 61 52 59 158 87 75 168 33 12 61.
        bothDue(new Run(), "deserts(1, 0", 1, 0);
        bothDue(new Run(), "deserts(2, 0", 1, 0);
        // On DIP 9 stays who goes to greater ones: 10 on DAY 1, then 61 on 7 DAYS.
        Run x = Run.of("c0090;");
        bothDue(x, "deserts(1, 0", 2, 10);
        bothDue(x, "deserts(2, 0", 3, 71);
        // DIP 0 is DONE, so 9 DAYS are left for 68 on 7 and 20 on 2; then 61 on 7 DAYS and 30 on 3.
        x = Run.of("c0000;");
        bothDue(x, "deserts(1, 0", 2, 68 + 20);
        bothDue(x, "deserts(2, 0", 3, 88 + 61 + 30);
        x.due("count(2)", 1000).due("count(4)", 0).due("count(1)", 0);
        Edge.of(35, "DESERTS: DIPS DONE (what 0), BOOKS (1). -1.");
        for (int bad : new int[] {-1, 0, 21, Integer.MIN_VALUE, Integer.MAX_VALUE}) {
            bothDue(x, "deserts(" + bad + ", 1", -1, -1);
        }
        for (int bad : NEITHER_0_NOR_1) {
            x.due("deserts(1, 1, " + bad + ")", -1);
        }
        bothDue(Run.of("c0090;r0;"), "deserts(20, 0", zeroDraws(20, 0), 0);
    }

    /** The draws that the document tells, in numbers that are far from an int's end. */
    private static int[] drawsOf(int z, int many) {
        long seed = z & 0xFFFFFFFFL;
        int[] draws = new int[many];
        for (int i = 0; i < many; i++) {
            seed = (seed * 1103515245L + 12345L) % 4294967296L;
            draws[i] = (int) (seed % 2147483648L / 65536L % 200L);
        }
        return draws;
    }

    private static int zeroDraws(int n, int z) {
        int zeros = 0;
        for (int draw : drawsOf(z, 10 * n)) {
            zeros += draw == 0 ? 1 : 0;
        }
        return zeros;
    }

    /** A STAFF who can not go on writes twice what is drawn for his DIP, 199 in 5 of the 10 DAYS. */
    private static void draws() {
        Edge.ofTerms("A DRAW below n: z becomes z times 1103515245 plus 12345 (an int); "
            + "(z without its sign's bit over 65536, cut) modulo n.");
        // Seed 36 draws 199 for DIP 9, seed 765 draws 0; seed 194 draws 199 for DIP 0.
        Run.of("c5090;").due("deserts(1, 36, 1)", 398).due("deserts(1, 765, 1)", 0).due("deserts(1, 0, 1)", 20);
        Run.of("c5001;").due("deserts(1, 194, 1)", 398).due("deserts(1, 0, 1)", 0).due("deserts(1, 1, 1)", 76);
        int[] seeds = {0, 1, -1, 2, 3, -2, 7, 12345, -12345, 65536, 1103515245, Integer.MAX_VALUE, Integer.MIN_VALUE};
        for (int dip = 0; dip < 10; dip++) {
            // One who RESTS ahead of him bars him.
            Run x = Run.of("c50" + dip + "0;c00" + Math.min(9, dip + 1) + "1;r1;");
            for (int seed : seeds) {
                x.due("deserts(1, " + seed + ", 1)", 2 * drawsOf(seed, 10)[dip]);
                int[] second = drawsOf(seed, 20);
                x.due("deserts(2, " + seed + ", 1)", 2 * (second[dip] + second[10 + dip]));
            }
        }
        for (int seed : seeds) {
            int together = 0;
            int[] draws = drawsOf(seed, 200);
            for (int i = 9; i < 200; i += 10) {
                together += 2 * draws[i];
            }
            Run.of("c5090;").due("deserts(20, " + seed + ", 1)", together);
            Run.of("c5090;r0;").due("deserts(20, " + seed + ", 0)", zeroDraws(20, seed));
        }
    }

    private static void eachFromNow() {
        Edge.ofTerms("each from now:", "(nothing DONE)");
        // 10 of DIP 9, then 61: what is DONE and in BOOKS now changes nothing in them.
        Run x = Run.of("c0090;c0050;r1;d08;").due("count(4)", 80);
        bothDue(x, "deserts(1, 0", 2, 10);
        bothDue(x, "deserts(2, 0", 3, 71);
        // Where he is, and his DAY: on 5 even DAYS 9 of 10 each, 8 in his BOOK.
        bothDue(Run.of("c6990;"), "deserts(1, 36", 0, 40);
        bothDue(EdgesOfDesert.lastDay("c6990;"), "deserts(1, 36", 0, 40);
        // The WIND as it is now; of 20 deserts each begins with it.
        bothDue(Run.of("w9;"), "deserts(1, 1", 1, 0);
        bothDue(Run.of("w9;"), "deserts(1, 472", 3, 0);
        // BOOKS are 9999 at most in each of them.
        x = Run.of("c5090;");
        for (int i = 0; i < 9; i++) {
            x.does("fills(9, 999)", "days(1)");
        }
        x.does("fills(9, 998)", "days(1)").due("count(4)", 9998).due("deserts(1, 36, 1)", 1).due("deserts(20, 36, 1)", 20);
    }

    private static final String FULL = "c2300;c5491;c6550;w3;d05;r1;g4007;";

    private static void image() {
        Edge.ofTerms("THE IMAGE: all that there is, but SHELVES (and THE IMAGE);");
        Edge.of(36, "THE IMAGE is taken: DAY.");
        new Run().due("image()", 0);
        EdgesOfDesert.lastDay("f;").due("image()", 999).due("image()", 999);
        Run x = Run.of(FULL).due("image()", 5);
        Check.due("all is as it was when it was taken", Run.of(FULL).all(), x.all());
        // The newest one is there, alone.
        x.does("days(1)").due("image()", 6).does("days(1)").due("restore()", 6).due("restore()", 6).due("count(1)", 6);
    }

    private static void restored() {
        Edge.ofTerms("RESTORED all is as it was then.");
        String before = Run.of(FULL).all();
        String[] changes = {"fills(0, 55)", "fills(4, 9)", "blows(-9)", "rests(0)", "rests(1)", "moves(2, 9)", "flood()", "days(1)",
            "days(60)", "comes(6, 9, 1)", "desert(7)"};
        for (String change : changes) {
            Run x = Run.of(FULL).does("keep(6, 1, 0, 0)").write(7, "c0000;g9000;d60;f;").does("image()", change);
            x.due("restore()", 5).does("keep(6, 0, 0, 0)", "keep(7, 0, 0, 0)");
            Check.due("all behind " + change + " and restore()", before, x.all());
        }
        for (int wind = -9; wind <= 9; wind++) {
            new Run().does("blows(" + wind + ")", "image()", "blows(" + (wind == 0 ? 1 : -wind) + ")").due("restore()", 0)
                .due("count(6)", wind + 9);
        }
        // It stays THE IMAGE, whatever becomes of what was RESTORED.
        Run x = Run.of(FULL).does("image()", "restore()", "days(9)", "flood()").due("restore()", 5);
        Check.due("all, RESTORED again", before, x.all());
        // The ones that came behind it are gone, and their room is there again.
        x = new Run().does("keep(0, 1, 0, 0)", "image()");
        for (int c = 0; c < 6; c++) {
            x.due("comes(0, 9, 0)", c);
        }
        x.due("comes(0, 9, 0)", -2).does("rests(0)", "days(1)", "restore()").due("count(0)", 0).due("corporal(0, 0)", -1);
        x.due("count(5)", 0).due("comes(0, 3, 1)", 0).due("corporal(0, 5)", 0).due("corporal(0, 4)", 0);
        Edge.ofTerms("when THE IMAGE is RESTORED, SHELVES stay as they are.");
        x = new Run().does("keep(0, 1, 1, 5)", "row(1, 0, 1)", "row(2, 1, 2)", "put(2, 1, 5)", "image()");
        x.does("keep(0, 0, 0, 0)", "row(1, 2, 3)", "keep(2, 1, 5, 1)", "keep(3, 1, 0, 7)", "restore()");
        x.due("cost(0)", -11).due("element(1, 2)", 0).due("cost(2)", 3).due("toss(3)", 7);
        Edge.of(37, "THE IMAGE is RESTORED: DAY. -3 there is none.");
        new Run().due("restore()", -3).due("image()", 0).due("restore()", 0);
        x = Run.of(FULL).due("restore()", -3);
        Check.due("all behind a refused restore()", before, x.all());
    }

    private static void count() {
        Edge.of(38, "0 CORPORALS, 1 DAY, 2 all GRAINS, 3 all DONE, 4 all BOOKS, 5 who RESTS (bits), 6 WIND and 9; -1 for others.");
        int[] none = {0, 0, 1000, 0, 0, 0, 9};
        int[] six = {6, 3, 1000, 60, 60, 1 + 8 + 16 + 32, 18};
        Run x = Run.of("c7500;c0010;c0020;c2091;c0090;c0001;r0;r5;r3;r4;w9;d03;");
        for (int what = 0; what < 7; what++) {
            new Run().due("count(" + what + ")", none[what]);
            x.due("count(" + what + ")", six[what]);
        }
        x.does("rests(3)", "rests(4)").due("count(5)", 1 + 32);
        x.does("blows(-9)").due("count(6)", 0);
        for (int bad : new int[] {-1, 7, Integer.MIN_VALUE, Integer.MAX_VALUE}) {
            x.due("count(" + bad + ")", -1);
            new Run().due("count(" + bad + ")", -1);
        }
        Run full = new Run();
        for (int dip = 0; dip < 10; dip++) {
            full.does("fills(" + dip + ", 999)");
        }
        full.due("count(2)", 9990);
        Edge.ofTerms("\"a and b\" of two numbers is their sum;");
        x.due("count(6)", 0).does("blows(1)").due("count(6)", 10);
        Run.of("c0900;").due("corporal(0, 6)", 19);
    }
}
