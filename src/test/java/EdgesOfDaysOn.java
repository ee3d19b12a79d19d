/** Boundary cases of promises 12 to 18: what is seen in mind, days on. */
final class EdgesOfDaysOn {
    private static final int[] NO_DAYS_ON = {-1, 61, 999, Integer.MIN_VALUE, Integer.MAX_VALUE};
    private static final int[] NO_CORPORAL_OF_2 = {-1, 2, 6, Integer.MIN_VALUE, Integer.MAX_VALUE};
    private static final int[] NO_DIP = {-1, 10, Integer.MIN_VALUE, Integer.MAX_VALUE};
    private static final int[] NEITHER_0_NOR_1 = {-1, 2, Integer.MIN_VALUE, Integer.MAX_VALUE};

    private EdgesOfDaysOn() {
    }

    static void all() {
        inMind();
        corporalThen();
        dipThen();
        dipsDone();
        ends();
        allEnds();
        meet();
        line();
        treaty();
    }

    private static void inMind() {
        Edge.ofTerms("In mind, n DAYS on (0 .. 60; DAY no matter): where a CORPORAL is; his BOOK; GRAINS of a DIP; DONE of it.");
        String[] calls = {"corporalThen(0, 60, 0)", "corporalThen(0, 60, 1)", "dipThen(0, 60, 0)", "dipThen(9, 60, 1)", "dipsDone(60)",
            "ends(0)", "ends(9)", "ends(-1)", "meet(0, 1)", "line(60)", "treaty(60)", "bestWind(60, 0)", "send(0, 60, 1)",
            "idle(60)", "slowest(60)", "lost(60)", "heap(60, 1)", "begin(0, 60)", "two(0, 1)", "storm(0, 7, 2, 0)",
            "deserts(20, 5, 1)", "whatIs(0, 1, 0)", "howMany(0, 1, 0)", "judge(0)"};
        String desert = "c2300;c5491;c6550;w3;";
        String before = EdgesOfDesert.lastDay(desert).tell(0, 1, 0, 5, 5).all();
        for (String call : calls) {
            // DAY 999 goes on as DAY 1 does; in mind no DAY is refused, and nothing is left behind.
            Run late = EdgesOfDesert.lastDay(desert).tell(0, 1, 0, 5, 5);
            late.due(call, Run.of("d01;" + desert).tell(0, 1, 0, 5, 5).answer(call));
            Check.due("all behind " + call, before, late.all());
        }
        Run x = Run.of("c0000;g0999;").due("corporalThen(0, 60, 1)", 600).does("days(60)").due("count(4)", 600);
        x.due("corporalThen(0, 0, 1)", 600).due("corporalThen(0, 39, 1)", 990).due("corporalThen(0, 40, 1)", 999);
        x.due("corporalThen(0, 39, 0)", 0).due("corporalThen(0, 40, 0)", 1);
    }

    private static void corporalThen() {
        Edge.of(12, "n DAYS on: AT (what 0), BOOK (1). -1.");
        Run x = Run.of("c0000;c0191;g0030;");
        int[][] due = {{0, 0, 0, 9, 0}, {1, 0, 10, 9, 11}, {2, 0, 20, 9, 22}, {3, 1, 30, 9, 33}, {4, 1, 40, 9, 44}};
        for (int[] n : due) {
            x.due("corporalThen(0, " + n[0] + ", 0)", n[1]).due("corporalThen(0, " + n[0] + ", 1)", n[2]);
            x.due("corporalThen(1, " + n[0] + ", 0)", n[3]).due("corporalThen(1, " + n[0] + ", 1)", n[4]);
        }
        // On DAY 40 the other one comes to DIP 5, and stays there as he does in DIP 4.
        x.due("corporalThen(0, 60, 1)", 30 + 4 * 100).due("corporalThen(0, 60, 0)", 4).due("corporalThen(1, 60, 0)", 5);
        for (int bad : NO_CORPORAL_OF_2) {
            x.due("corporalThen(" + bad + ", 0, 0)", -1);
        }
        for (int bad : NO_DAYS_ON) {
            x.due("corporalThen(0, " + bad + ", 0)", -1).due("corporalThen(0, " + bad + ", 1)", -1);
        }
        for (int bad : NEITHER_0_NOR_1) {
            x.due("corporalThen(0, 0, " + bad + ")", -1);
        }
        new Run().due("corporalThen(0, 0, 0)", -1);
        Run.of("c0000;".repeat(6)).due("corporalThen(5, 1, 1)", 10).due("corporalThen(6, 1, 1)", -1);
    }

    private static void dipThen() {
        Edge.of(13, "n DAYS on: GRAINS (what 0), DONE (1). -1.");
        Run x = Run.of("c0000;c0191;w1;");
        int[][] due = {{0, 100, 0}, {1, 99, 10}, {9, 91, 90}, {10, 90, 90}, {11, 89, 89}};
        for (int[] n : due) {
            x.due("dipThen(0, " + n[0] + ", 0)", n[1]).due("dipThen(0, " + n[0] + ", 1)", n[2]);
        }
        x.due("dipThen(9, 0, 0)", 100).due("dipThen(9, 60, 0)", 160).due("dipThen(9, 9, 1)", 99).due("dipThen(9, 1, 1)", 11);
        for (int bad : NO_DIP) {
            x.due("dipThen(" + bad + ", 0, 0)", -1);
        }
        for (int bad : NO_DAYS_ON) {
            x.due("dipThen(0, " + bad + ", 0)", -1).due("dipThen(0, " + bad + ", 1)", -1);
        }
        for (int bad : NEITHER_0_NOR_1) {
            x.due("dipThen(0, 0, " + bad + ")", -1);
        }
    }

    private static void dipsDone() {
        Edge.ofTerms("DIPS DONE (bits: GRAINS all DONE, none, too).");
        new Run().due("dipsDone(0)", 0).due("dipsDone(60)", 0);
        Run x = Run.of("g0000;g9000;c0000;c0090;c0050;g5010;c0060;g6011;");
        x.due("dipsDone(0)", 1 + 512).due("dipsDone(1)", 1 + 512 + 32).does("days(1)").due("dipsDone(0)", 1 + 512 + 32);
        Run.withGrains("f;").due("dipsDone(0)", 1023).due("dipsDone(60)", 1023);
        Run.withGrains("c0000;w1;", 0, 10).due("dipsDone(0)", 1022).due("dipsDone(1)", 1023 - 2).due("dipsDone(2)", 1023 - 2 - 4);
        Edge.of(14, "DIPS DONE (bits) n DAYS on. -1.");
        for (int bad : NO_DAYS_ON) {
            x.due("dipsDone(" + bad + ")", -1);
        }
    }

    private static void ends() {
        Edge.ofTerms("ENDS: behind how many DAYS (0 .. 60) a DIP is DONE first; -4;");
        Run x = Run.of("c7000;g9000;").due("ends(9)", 0).due("ends(1)", -4);
        for (int[] grains : new int[][] {{0, 0}, {1, 1}, {2, 2}, {59, 59}, {60, 60}, {61, -4}, {999, -4}}) {
            x.does("fills(0, " + grains[0] + ")").due("ends(0)", grains[1]);
        }
        // First, though it is not DONE any more later.
        Run.withGrains("w5;c0090;", 8, 10).due("ends(9)", 0).due("ends(8)", 2);
        Run.withGrains("w5;c0090;", 8, 10, 9, 5).due("ends(9)", 3);
        // What blows on can leave none.
        Run.of("w9;").due("ends(0)", 12).due("ends(9)", -4);
        Run.of("w2;g0120;").due("ends(0)", 60);
        Run.of("w2;g0121;").due("ends(0)", -4);
        x.due("ends(-2)", -1).due("ends(10)", -1).due("ends(" + Integer.MIN_VALUE + ")", -1).due("ends(" + Integer.MAX_VALUE + ")", -1);
    }

    private static void allEnds() {
        Edge.ofTerms("ALL: behind how many all DIPS are; -4.");
        Edge.of(15, "ENDS; ALL (dip -1); -4. -1.");
        new Run().due("ends(-1)", -4);
        Run.withGrains("f;").due("ends(-1)", 0).due("ends(0)", 0);
        for (int[] grains : new int[][] {{1, 1}, {60, 60}, {61, -4}}) {
            Run.withGrains("c7091;", 9, grains[0]).due("ends(-1)", grains[1]);
            Run.withGrains("c7000;", 0, grains[0]).due("ends(-1)", grains[1]);
        }
        Run.withGrains("c0000;c0090;", 0, 25, 9, 15).due("ends(0)", 3).due("ends(9)", 2).due("ends(-1)", 3);
        // Each is DONE at some time, but never all at one.
        Run.withGrains("c0080;c0090;r0;r1;w9;", 0, 1).due("ends(0)", 1).due("ends(1)", 0).due("ends(9)", 0).due("ends(-1)", -4);
        Run.withGrains("c7090;w9;", 0, 1).due("ends(-1)", 10);
    }

    private static void meet() {
        Edge.ofTerms("MEET: behind how many (0 .. 60) two CORPORALS are in DIPS next to each other or in one first; -4.");
        String[] now = {"c0040;c0040;", "c0040;c0041;", "c0040;c0050;", "c0050;c0041;", "c0000;c0010;", "c0091;c0080;"};
        for (String text : now) {
            Run.of(text).due("meet(0, 1)", 0).due("meet(1, 0)", 0);
        }
        Run.of("c0040;c0061;").due("meet(0, 1)", 10).due("meet(1, 0)", 10);
        Run.of("c0040;c0061;g4000;").due("meet(0, 1)", 1);
        Run.of("c0041;c0060;").due("meet(0, 1)", -4).due("meet(1, 0)", -4);
        Run.of("c0000;c0090;r0;r1;").due("meet(0, 1)", -4);
        for (int[] grains : new int[][] {{59, 59}, {60, 60}, {61, -4}}) {
            Run.of("c7000;g00" + grains[0] + ";c0020;r1;").due("meet(0, 1)", grains[1]).due("meet(1, 0)", grains[1]);
        }
        // Past each other they can not go, but by one WAY one can pass: first is first.
        Run x = Run.of("c0000;c0020;c0040;r1;r2;g0000;g1000;g2000;g3000;g4000;").due("meet(0, 1)", 1).due("meet(0, 2)", 3);
        x.does("days(6)").due("corporal(0, 2)", 5).due("meet(0, 2)", 0).due("meet(0, 1)", -4);
        Edge.of(16, "MEET; -4. -1 (one twice).");
        x = Run.of("c0000;c0000;");
        for (int bad : NO_CORPORAL_OF_2) {
            x.due("meet(" + bad + ", 0)", -1).due("meet(0, " + bad + ")", -1).due("meet(" + bad + ", " + bad + ")", -1);
        }
        x.due("meet(0, 0)", -1).due("meet(1, 1)", -1).due("meet(0, 1)", 0);
    }

    private static void line() {
        Edge.ofTerms("LINE: of all CORPORALS of WAY 0 the greatest DIP, of WAY 1 the least (0 none; 9 none), "
            + "behind n DAYS: 10 times the one and the other.");
        new Run().due("line(0)", 9).due("line(60)", 9);
        Run.of("c0000;").due("line(0)", 9).due("line(10)", 19);
        Run.of("c0090;").due("line(0)", 99).due("line(60)", 99);
        Run.of("c0091;").due("line(0)", 9).due("line(10)", 8);
        Run.of("c0001;").due("line(0)", 0).due("line(60)", 0);
        Run.of("c0090;c0001;").due("line(0)", 90);
        Run.of("c0030;c0070;c0050;c0041;c0021;c0061;").due("line(0)", 72);
        Run.of("c0070;c0030;c0050;c0021;c0061;c0041;").due("line(0)", 72);
        Run.of("c0050;c0030;c0070;c0061;c0041;c0021;r2;r5;").due("line(0)", 72);
        Edge.of(17, "LINE. -1.");
        Run x = Run.of("c0000;c0091;r1;");
        x.due("line(9)", 9).due("line(10)", 19).due("line(60)", 69);
        for (int bad : NO_DAYS_ON) {
            x.due("line(" + bad + ")", -1);
        }
    }

    private static void treaty() {
        Edge.ofTerms("TREATY: by all BOOKS of WAY 0 less all of WAY 1, n DAYS on.");
        new Run().due("treaty(0)", 0).due("treaty(60)", 0);
        Run x = Run.of("c0100;c0291;").due("treaty(0)", 0).due("treaty(1)", -1).due("treaty(2)", -2).does("days(1)");
        x.due("treaty(0)", -1).does("rests(1)").due("treaty(1)", 10);
        Run.of("c0000;c0010;c0090;").due("treaty(1)", 30);
        Run.of("c0001;c0011;c0091;").due("treaty(1)", -30);
        Run.of("c0100;c0211;c0320;c0431;c0540;c0651;").due("treaty(1)", 11 - 12 + 13 - 14 + 15 - 16);
        Run.of("c5101;g0999;").due("treaty(60)", -2 * 999 - 2 * 0).due("treaty(1)", -1000);
        Edge.of(18, "TREATY. Refused as told: -1.");
        for (int bad : NO_DAYS_ON) {
            x.due("treaty(" + bad + ")", 1000000001);
        }
    }
}
