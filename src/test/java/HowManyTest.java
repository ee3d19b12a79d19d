/** Promises 28 to 32: how many, what he is, two, storms, shares. */
public final class HowManyTest {
    private static final int LEAST_SHORT = -32768;
    private static final int LEAST_INT = Integer.MIN_VALUE;
    private static final int[] NO_PART = {-1, Integer.MIN_VALUE, Integer.MAX_VALUE};

    public static void main(String[] args) {
        howMany();
        howManySkips();
        whatIs();
        whatIsOfEachKind();
        refusalsByRows();
        two();
        twoTogether();
        storm();
        mean();
        nothingChanges();
        Check.end();
    }

    private static void howManyDue(DesertIsCounted x, int dip, String row, int number, int least, int greatest) {
        Check.due(row + ": how many", number, x.howMany(0, dip, 0));
        Check.due(row + ": the least", least, x.howMany(0, dip, 1));
        Check.due(row + ": the greatest", greatest, x.howMany(0, dip, 2));
    }

    private static void howMany() {
        Check.promise(28, "howMany");
        DesertIsCounted x = Check.of("c0000;");
        x.fills(0, 3);
        Check.tell(x, 0, 1, 0, 10, 20);
        howManyDue(x, 0, "0, 10, 20", 980, 20, 999);
        Check.tell(x, 0, 1, 0, 10, 15);
        howManyDue(x, 0, "0, 10, 15", 1, 15, 15);
        Check.tell(x, 0, 1, 0, 10, 21);
        howManyDue(x, 0, "0, 10, 21", 0, -4, -4);
        Check.tell(x, 0, 1, 1, 10);
        howManyDue(x, 0, "1, 10", 0, -4, -4);
        Check.tell(x, 0, 1);
        howManyDue(x, 0, "nothing", 1000, 0, 999);
        Check.tell(x, 0, 1, 0, 0);
        howManyDue(x, 0, "0, 0 where one counts", 1, 0, 0);
        howManyDue(x, 1, "0, 0 where nobody counts", 1000, 0, 999);
        x = Check.of("c0000;d03;");
        Check.tell(x, 0, 2, 30, 35, 35, 35);
        howManyDue(x, 0, "30, 35, 35, 35 behind 3 DAYS", 1, 35, 35);
        Check.tell(x, 0, 2, 30);
        howManyDue(x, 0, "30 behind 3 DAYS", 970, 30, 999);
        Check.tell(x, 0, 2, 0);
        howManyDue(x, 0, "0 behind 3 DAYS", 0, -4, -4);
        x = Check.of("c2000;");
        Check.tell(x, 0, 1, 0, 13);
        howManyDue(x, 0, "0, 13 by a GUESSER", 2, 25, 26);
        Check.tell(x, 0, 1, 0, 500);
        howManyDue(x, 0, "0, 500 by a GUESSER", 1, 999, 999);
        x = Check.of("c0900;w9;");
        Check.tell(x, 0, 1, 0, 11);
        howManyDue(x, 0, "0, 11 in the WIND", 1, 20, 20);
    }

    private static void howManySkips() {
        Check.promise(28, "howMany, what is skipped");
        DesertIsCounted x = Check.of("c0000;");
        Check.tell(x, 0, 0, -128, -128, 15);
        howManyDue(x, 0, "bytes", 1, 15, 15);
        Check.tell(x, 0, 1, LEAST_SHORT, LEAST_SHORT, 15);
        howManyDue(x, 0, "shorts", 1, 15, 15);
        Check.tell(x, 0, 2, LEAST_INT, LEAST_INT, 15);
        howManyDue(x, 0, "ints", 1, 15, 15);
        Check.tell(x, 0, 2, LEAST_INT, 10, LEAST_INT);
        howManyDue(x, 0, "one at the end", 990, 10, 999);
        Check.tell(x, 0, 1, -128, 10);
        howManyDue(x, 0, "not the least short", 0, -4, -4);
        Check.tell(x, 0, 2, LEAST_SHORT, 10);
        howManyDue(x, 0, "not the least int", 0, -4, -4);
        Check.tell(x, 0, 0, -127, 10);
        howManyDue(x, 0, "not the least byte", 0, -4, -4);
        Check.tell(x, 0, 2, LEAST_INT, LEAST_INT);
        howManyDue(x, 0, "all of it", 1000, 0, 999);
        x.row(0, 2, 100);
        for (int i = 0; i < 99; i++) {
            x.put(0, i, LEAST_INT);
        }
        x.put(0, 99, 985);
        howManyDue(x, 0, "the last of 100", 1, 985, 985);
    }

    private static void whatIsDue(DesertIsCounted x, String row, int kinds, int figures) {
        Check.due(row + ": KINDS", kinds, x.whatIs(0, 0, 0));
        Check.due(row + ": FIGURES", figures, x.whatIs(0, 0, 1));
    }

    private static void whatIs() {
        Check.promise(29, "whatIs");
        DesertIsCounted x = Check.of("c0500;");
        // KINDS are told of one with FIGURE 5, FIGURES of a CORPORAL.
        int[] books = {15, 14, 13, 100, 0, 10, 19, 55, 7, 8, 6, 5, 60, 1};
        int[] kinds = {1, 2, 0, 32, 64, 0, 0, 4, 8, 16, 128, 0, 0, 0};
        int[] figures = {32, 16, 8, 0, 0, 1, 512, 0, 0, 0, 0, 0, 0, 0};
        for (int i = 0; i < books.length; i++) {
            Check.tell(x, 0, 1, 0, books[i]);
            whatIsDue(x, "0, " + books[i], kinds[i], figures[i]);
        }
        Check.tell(x, 0, 1, 1);
        whatIsDue(x, "1", 0, 0);
        Check.tell(x, 0, 1, 0);
        whatIsDue(x, "0", 255, 1023);
        Check.tell(x, 0, 1);
        whatIsDue(x, "nothing", 255, 1023);
        Check.tell(x, 0, 1, LEAST_SHORT, LEAST_SHORT, LEAST_SHORT);
        whatIsDue(x, "all skipped", 255, 1023);
        Check.tell(x, 0, 0, -128, 14);
        whatIsDue(x, "a byte skipped", 2, 16);
        Check.tell(x, 0, 2, LEAST_INT, -128);
        whatIsDue(x, "no int skipped", 0, 0);
        Check.tell(x, 0, 1, 0, LEAST_SHORT, 14 + 14);
        whatIsDue(x, "two DAYS by 14", 2, 16);
        Check.due("of whom it was told, his KIND is as it was", 0, x.corporal(0, 0));
        Check.due("of whom it was told, his FIGURE is as it was", 5, x.corporal(0, 1));
        x.rests(0);
        Check.tell(x, 0, 1, 0, 0, 0);
        whatIsDue(x, "who RESTS", 255, 1023);
    }

    private static void whatIsOf(String desert, int kinds, int figures, int... told) {
        DesertIsCounted x = Check.of(desert);
        Check.tell(x, 0, 1, told);
        whatIsDue(x, desert, kinds, figures);
    }

    /** FIGURES are told of him as he is, of his own KIND; KINDS of him with his own FIGURE. */
    private static void whatIsOfEachKind() {
        Check.promise(29, "whatIs, of each KIND");
        whatIsOf("c0000;", 64, 0, 0, 0);
        whatIsOf("c1000;", 1, 2, 0, 10);
        whatIsOf("c2300;", 0, 32, 0, 55);
        whatIsOf("c3400;", 8 + 16, 16 + 32, 0, 7);
        whatIsOf("c4000;", 8 + 16, 1, 0, 5);
        whatIsOf("c5700;", 32, 1023, 0, 100);
        whatIsOf("c6400;", 64, 16 + 32, 0, 0, 6);
        whatIsOf("c7900;", 0, 1, 0, 1);
        // Behind DAYS he has 10 and FIGURE a DAY ahead of what is told from now on.
        whatIsOf("c0500;d02;", 1, 32, 30, 45);
        whatIsOf("c0500;d02;", 255, 1023, 30);
        whatIsOf("g0012;c0000;c0401;", 1, 1, 0, 10);
        whatIsOf("g0012;c0000;c0401;", 0, 1023 - 1 - 2, 0, 12);
        // What the first one counts there is not left for the second.
        DesertIsCounted x = Check.of("g0012;c0000;c0401;");
        Check.tell(x, 0, 1, 0, 2);
        Check.due("KINDS of the second", 1 + 2 + 8 + 16 + 128, x.whatIs(0, 1, 0));
        Check.due("FIGURES of the second", 1023, x.whatIs(0, 1, 1));
    }

    private static void refusalsByRows() {
        Check.promise(28, "and 29, refusals");
        DesertIsCounted x = Check.of("c0000;");
        x.keep(1, 1, 0, 0);
        x.row(2, 0, 0);
        for (int bad : new int[] {-1, 8, Integer.MIN_VALUE, Integer.MAX_VALUE}) {
            Check.due("howMany(" + bad + ", 0, 0)", -1, x.howMany(bad, 0, 0));
            Check.due("whatIs(" + bad + ", 0, 0)", -1, x.whatIs(bad, 0, 0));
        }
        for (int bad : new int[] {-1, 10, Integer.MAX_VALUE}) {
            Check.due("howMany(0, " + bad + ", 0), told ahead of nothing held", -1, x.howMany(0, bad, 0));
            Check.due("howMany(1, " + bad + ", 0), told ahead of a CORPORAL", -1, x.howMany(1, bad, 0));
            Check.due("whatIs(0, " + bad + ", 0), told ahead of nothing held", -1, x.whatIs(0, bad, 0));
            Check.due("whatIs(1, " + bad + ", 0), told ahead of a CORPORAL", -1, x.whatIs(1, bad, 0));
        }
        Check.due("howMany(0, 0, 3)", -1, x.howMany(0, 0, 3));
        Check.due("howMany(0, 0, -1)", -1, x.howMany(0, 0, -1));
        Check.due("whatIs(0, 0, 2)", -1, x.whatIs(0, 0, 2));
        Check.due("whatIs(0, 0, -1)", -1, x.whatIs(0, 0, -1));
        Check.due("whatIs(2, 1, 0)", -1, x.whatIs(2, 1, 0));
        Check.due("howMany(0, 0, 0)", -11, x.howMany(0, 0, 0));
        Check.due("whatIs(0, 0, 0)", -11, x.whatIs(0, 0, 0));
        Check.due("howMany(1, 0, 0)", -12, x.howMany(1, 0, 0));
        Check.due("whatIs(1, 0, 0)", -12, x.whatIs(1, 0, 0));
        Check.due("howMany(2, 9, 2)", 999, x.howMany(2, 9, 2));
    }

    private static void twoDue(String desert, int want) {
        Check.due(desert + " two(0, 1)", want, Check.of(desert).two(0, 1));
    }

    private static void two() {
        Check.promise(30, "two");
        // 5 DAYS of writing are 75, of a RECRUIT with FIGURE 0 5, of a STAFF among 999 more than 1000.
        twoDue("c7000;c7090;", 0);
        twoDue("c5000;g0999;c5091;g9999;", 11);
        twoDue("c7000;c5091;g9999;", 1);
        twoDue("c5000;g0999;c7091;", 10);
        twoDue("c0300;c0391;", 0);
        // Writing beside one who counts is 75 less 20.
        twoDue("c0200;c5091;g9999;", 11);
        twoDue("c0100;c5091;g9999;", 1);
        twoDue("c5000;g0999;c0291;", 11);
        twoDue("c5000;g0999;c0191;", 10);
        // 12 on 4 DAYS and the 8 that are left are 56: 1 more than that; 55 are not more.
        twoDue("c0290;g9056;c5000;g0999;", 11);
        twoDue("c0290;g9055;c5000;g0999;", 1);
        twoDue("c5000;g0999;c0290;g9056;", 11);
        twoDue("c5000;g0999;c0290;g9055;", 10);
        // 15 on 5 DAYS are as many as writing is; with FIGURE 6 the 76 that are there are 1 more.
        twoDue("c0690;g9075;c7000;", 0);
        twoDue("c0690;g9076;c7000;", 10);
        twoDue("c0200;c5091;g9999;r0;r1;", 11);
        twoDue("c5000;g0999;c7091;d01;f;", 10);
        twoDue("c5000;g0999;c7091;d01;g0999;", 10);
        DesertIsCounted x = Check.of("c7000;c5091;g9999;c0050;");
        Check.due("two(0, 1)", 1, x.two(0, 1));
        Check.due("two(1, 0)", 10, x.two(1, 0));
        Check.due("two(0, 2)", 0, x.two(0, 2));
        Check.due("two(2, 1)", 1, x.two(2, 1));
        for (int bad : new int[] {-1, 3, 6, Integer.MIN_VALUE, Integer.MAX_VALUE}) {
            Check.due("two(0, " + bad + ")", -1, x.two(0, bad));
            Check.due("two(" + bad + ", 0)", -1, x.two(bad, 0));
        }
        Check.due("two(1, 1)", -1, x.two(1, 1));
    }

    private static void twoTogether() {
        Check.promise(30, "two, each in the other's way");
        // Both write: 75 and 75. The GUESSER counts and the other writes: 5 + 54 + 27 = 86 and 55.
        // He writes and the other counts: 55 and 60. Both count: 5 + 36 + 12 = 53 and 59. So one always chooses anew.
        twoDue("c2030;c0240;g3005;g4107;", -4);
        // The first is barred by the second, who has enough to count: so he writes.
        twoDue("c5040;c5051;g4000;g5100;", 1);
        // Who writes stays where he is, though all is DONE there: so dip 6 is free behind 2 DAYS, and the first
        // has 38 and 57 if he counts; if the second counts, he is in dip 6 ahead of him and has 4.
        twoDue("c0971;c7050;g7038;g5000;", 10);
    }

    private static void stormDue(DesertIsCounted x, int dip, int n, int t, long above, long below) {
        Check.due("storm(" + dip + ", " + n + ", " + t + ", 0)", above, x.storm(dip, n, t, 0));
        Check.due("storm(" + dip + ", " + n + ", " + t + ", 1)", below, x.storm(dip, n, t, 1));
    }

    private static void storm() {
        Check.promise(31, "storm");
        DesertIsCounted x = Check.of("g0009;");
        stormDue(x, 0, 0, 3, 0, 1);
        stormDue(x, 0, 1, 3, 1, 3);
        stormDue(x, 0, 2, 3, 5, 9);
        stormDue(x, 0, 7, 20, 386128261L, 1280000000L);
        stormDue(x, 0, 1, 2, 1, 2);
        stormDue(x, 9, 7, 2, 0, 1);
        x.fills(0, 18);
        stormDue(x, 0, 2, 3, 1, 9);
        stormDue(x, 0, 3, 2, 1, 2);
        stormDue(x, 0, 3, 4, 5, 32);
        x.blows(9);
        stormDue(x, 0, 2, 3, 1, 1);
        x.blows(-9);
        stormDue(x, 0, 1, 3, 0, 1);
        x.blows(5);
        stormDue(x, 0, 3, 3, 19, 27);
        x.fills(0, 0);
        x.blows(0);
        stormDue(x, 0, 0, 20, 1, 1);
        stormDue(x, 0, 7, 20, 1, 1);
        x = Check.of("c0000;g0010;");
        stormDue(x, 5, 7, 2, 0, 1);
        stormDue(x, 0, 1, 2, 1, 1);
        for (int bad : NO_PART) {
            Check.due("storm(" + bad + ", 0, 2, 0)", 1000000001L, x.storm(bad, 0, 2, 0));
            Check.due("storm(0, " + bad + ", 2, 0)", 1000000001L, x.storm(0, bad, 2, 0));
            Check.due("storm(0, 0, " + bad + ", 0)", 1000000001L, x.storm(0, 0, bad, 0));
            Check.due("storm(0, 0, 2, " + bad + ")", 1000000001L, x.storm(0, 0, 2, bad));
        }
        Check.due("storm(10, 0, 2, 0)", 1000000001L, x.storm(10, 0, 2, 0));
        Check.due("storm(0, 8, 2, 0)", 1000000001L, x.storm(0, 8, 2, 0));
        Check.due("storm(0, 0, 1, 0)", 1000000001L, x.storm(0, 0, 1, 0));
        Check.due("storm(0, 0, 21, 0)", 1000000001L, x.storm(0, 0, 21, 0));
        Check.due("storm(0, 0, 2, 2)", 1000000001L, x.storm(0, 0, 2, 2));
    }

    private static void meanDue(DesertIsCounted x, long above, long below) {
        Check.due("mean(0)", above, x.mean(0));
        Check.due("mean(1)", below, x.mean(1));
    }

    private static void mean() {
        Check.promise(32, "mean");
        DesertIsCounted x = new DesertIsCounted();
        meanDue(x, 100, 1);
        x.fills(0, 101);
        meanDue(x, 1001, 10);
        x.fills(0, 105);
        meanDue(x, 201, 2);
        x.fills(0, 106);
        meanDue(x, 503, 5);
        for (int dip = 0; dip < 10; dip++) {
            x.fills(dip, 999);
        }
        meanDue(x, 999, 1);
        for (int dip = 0; dip < 10; dip++) {
            x.fills(dip, 0);
        }
        meanDue(x, 0, 1);
        x.fills(9, 1);
        meanDue(x, 1, 10);
        for (int bad : NO_PART) {
            Check.due("mean(" + bad + ")", 1000000001L, x.mean(bad));
        }
        Check.due("mean(2)", 1000000001L, x.mean(2));
    }

    private static void nothingChanges() {
        Check.promise(28, "and 29 to 32: nothing changes");
        DesertIsCounted x = Check.of("c2300;c5491;c6550;w3;d05;r1;");
        Check.tell(x, 0, 1, LEAST_SHORT, LEAST_SHORT, 7);
        String before = Check.all(x);
        x.howMany(0, 0, 0);
        x.whatIs(0, 1, 0);
        x.two(0, 1);
        x.storm(0, 7, 2, 0);
        x.mean(0);
        Check.due("all", before, Check.all(x));
    }
}
