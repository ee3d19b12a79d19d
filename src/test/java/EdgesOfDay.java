/** Boundary cases of A DAY: who counts, who goes on, what the wind carries. */
final class EdgesOfDay {
    private EdgesOfDay() {
    }

    static void all() {
        oneMore();
        byNumbers();
        bookIsMore();
        goesOn();
        barred();
        itBlows();
        noMoreThanItHas();
        noMoreThan999();
        notDoneFirst();
    }

    private static void oneMore() {
        Edge.ofTerms("A DAY: DAY is 1 more;");
        new Run().does("days(1)").due("count(1)", 1).does("days(1)").due("count(1)", 2).does("days(60)").due("count(1)", 62);
    }

    private static void byNumbers() {
        Edge.ofTerms("CORPORALS by numbers, each that does not REST: he COUNTS where he is (that DAY): so many more are DONE,");
        Run.of("c2000;c0000;c2000;d01;").due("corporal(0, 4)", 50).due("corporal(1, 4)", 10).due("corporal(2, 4)", 20)
            .due("dip(0, 1)", 80);
        Run.of("c2000;c0000;c2000;r0;d01;").due("corporal(0, 4)", 0).due("corporal(1, 4)", 10).due("corporal(2, 4)", 45)
            .due("dip(0, 1)", 55);
        Run.of("c2000;c0000;c2000;r1;r2;d01;").due("corporal(1, 4)", 0).due("corporal(2, 4)", 0).due("dip(0, 1)", 50);
        // The DAY that is 1 more now: the first one is odd.
        Run.of("c6000;d01;").due("dip(0, 1)", 0).does("days(1)").due("dip(0, 1)", 5).does("days(1)").due("dip(0, 1)", 5);
        Run.of("c0000;d01;").due("dip(1, 1)", 0);
    }

    private static void bookIsMore() {
        Edge.ofTerms("his BOOK is more by what he BOOKS");
        Run.of("c2900;c5000;c6000;d02;").due("corporal(0, 4)", 50 + 9 + 13 + 9).due("corporal(1, 4)", 2 * 25 + 2 * 12)
            .due("corporal(2, 4)", 0);
        Run.of("c5090;c6000;d02;").due("corporal(0, 4)", 150).due("corporal(1, 4)", 4).due("dip(0, 1)", 5);
    }

    private static void atDue(String text, int... dips) {
        Run x = Run.of(text).does("days(1)");
        for (int c = 0; c < dips.length; c++) {
            Check.due(text + "d01; where " + c + " is", String.valueOf(dips[c]), x.answer("corporal(" + c + ", 2)"));
        }
    }

    private static void goesOn() {
        Edge.ofTerms("is nothing left that is not DONE there then, he goes 1 DIP on by his WAY,");
        atDue("c0040;g4011;", 4);
        atDue("c0040;g4010;", 5);
        atDue("c0040;g4009;", 5);
        atDue("c0040;g4000;", 5);
        atDue("c0041;g4011;", 4);
        atDue("c0041;g4010;", 3);
        atDue("c0041;g4000;", 3);
        atDue("c0040;g4000;g5000;g6000;", 5);
        atDue("c0041;g4000;g3000;g2000;", 3);
        atDue("c0040;c0040;g4010;", 5, 5);
        atDue("c0040;c0040;g4020;", 4, 5);
        atDue("c2040;c0040;g4012;", 4, 5);
        atDue("c0040;g4000;r0;", 4);
        atDue("c6040;g4000;", 5);
        atDue("c6040;g4001;", 4);
        // It is looked at ahead of the WIND: what comes then does not keep him, what goes then does not free him.
        atDue("c0040;g4010;w9;", 5);
        atDue("c0040;g4011;g3000;w9;", 4);
        Edge.ofTerms("if there is one");
        atDue("c0090;g9000;", 9);
        atDue("c0001;g0000;", 0);
        atDue("c0080;g8000;", 9);
        atDue("c0011;g1000;", 0);
        atDue("c0091;g9000;", 8);
        atDue("c0000;g0000;", 1);
    }

    private static void barred() {
        Edge.ofTerms("and no CORPORAL of the other WAY stands in it;");
        atDue("c0040;c0051;g4000;", 4, 5);
        atDue("c0051;c0040;g5000;", 5, 4);
        atDue("c0040;c0051;g4000;r1;", 4, 5);
        atDue("c0040;c0050;g4000;", 5, 5);
        atDue("c0041;c0030;g4000;", 4, 3);
        atDue("c0041;c0031;g4000;", 3, 3);
        atDue("c0040;c0041;g4000;", 5, 3);
        atDue("c0040;c0061;g4000;", 5, 6);
        atDue("c0040;c0050;c0051;g4000;", 4, 5, 5);
        atDue("c0040;c0000;c0000;c0000;c0000;c0051;g4000;", 4, 0, 0, 0, 0, 5);
        // By numbers: who has gone there ahead of him bars him.
        atDue("c0040;c0061;g4000;g6000;", 5, 6);
        atDue("c0061;c0040;g4000;g6000;", 5, 4);
        atDue("c0051;c0060;g5000;g6000;", 4, 7);
        atDue("c0041;c0030;g4000;g3000;", 4, 3);
        atDue("c0031;c0020;g3000;g2000;r0;", 3, 2);
        atDue("c0051;c0030;c0040;g5000;g3000;g4000;", 5, 4, 4);
        atDue("c0051;c0040;g5010;g4000;", 5, 4);
        atDue("c0050;c0040;c0061;g5000;g4000;", 5, 5, 6);
    }

    private static void grainsDue(Run x, String name, int... grains) {
        for (int dip = 0; dip < 10; dip++) {
            Check.due(name + ": dip(" + dip + ", 0)", String.valueOf(grains[dip]), x.answer("dip(" + dip + ", 0)"));
        }
    }

    private static void itBlows() {
        Edge.ofTerms("then it blows: if WIND is above 0, DIPS from 8 to 0, else from 1 to 9, "
            + "each gives as many GRAINS as WIND is", "to the next DIP that way;");
        grainsDue(Run.of("w1;d01;"), "w1", 99, 100, 100, 100, 100, 100, 100, 100, 100, 101);
        grainsDue(Run.of("e1;d01;"), "e1", 101, 100, 100, 100, 100, 100, 100, 100, 100, 99);
        grainsDue(Run.of("w0;d01;"), "w0", 100, 100, 100, 100, 100, 100, 100, 100, 100, 100);
        grainsDue(Run.of("e9;d01;"), "e9", 109, 100, 100, 100, 100, 100, 100, 100, 100, 91);
        // No GRAIN is carried twice on one DAY.
        Run x = Run.withGrains("w9;", 0, 20, 4, 5).does("days(1)");
        grainsDue(x, "w9, each one on", 11, 9, 0, 0, 0, 5, 0, 0, 0, 0);
        grainsDue(x.does("days(1)"), "w9, each two on", 2, 9, 9, 0, 0, 0, 5, 0, 0, 0);
        x = Run.withGrains("e9;", 9, 20, 4, 5).does("days(1)");
        grainsDue(x, "e9, each one on", 0, 0, 0, 5, 0, 0, 0, 0, 9, 11);
        grainsDue(x.does("days(1)"), "e9, each two on", 0, 0, 5, 0, 0, 0, 0, 9, 9, 2);
        // Behind the counting: the ones that are counted were still there.
        Run.of("c0900;g0019;w9;d01;").due("dip(0, 0)", 10).due("dip(0, 1)", 10).due("corporal(0, 4)", 19);
    }

    private static void noMoreThanItHas() {
        Edge.ofTerms("(its size; no more than it has,");
        Run x = Run.withGrains("w9;", 3, 8, 6, 9, 8, 10).does("days(1)");
        grainsDue(x, "w9", 0, 0, 0, 0, 8, 0, 0, 9, 1, 9);
        x = Run.withGrains("e9;", 3, 8, 6, 9, 8, 10).does("days(1)");
        grainsDue(x, "e9", 0, 0, 8, 0, 0, 9, 0, 9, 1, 0);
        Run.withGrains("w9;", 0, 1).does("days(20)").due("dip(9, 0)", 1).due("count(2)", 1);
    }

    private static void noMoreThan999() {
        Edge.ofTerms("no more than make 999 there)");
        grainsDue(Run.of("w9;g9990;d01;"), "990 and 9", 91, 100, 100, 100, 100, 100, 100, 100, 100, 999);
        grainsDue(Run.of("w9;g9991;d01;"), "991 and 8", 91, 100, 100, 100, 100, 100, 100, 100, 101, 999);
        grainsDue(Run.of("w9;g9999;d01;"), "999 and none", 91, 100, 100, 100, 100, 100, 100, 100, 109, 999);
        grainsDue(Run.of("e9;g0991;d01;"), "to lesser ones", 999, 101, 100, 100, 100, 100, 100, 100, 100, 91);
        // From 8 to 0: what a DIP has given makes room for what it gets.
        grainsDue(Run.of("w9;g7999;g8999;g9995;d01;"), "full ones", 91, 100, 100, 100, 100, 100, 96 + 9, 999, 999, 999);
        grainsDue(Run.of("w9;g7999;g8999;g9999;d01;"), "nowhere to", 91, 100, 100, 100, 100, 100, 109, 999, 999, 999);
        grainsDue(Run.of("e9;g2999;g1999;g0995;d01;"), "full ones, to lesser ones", 999, 999, 999, 96 + 9, 100, 100, 100, 100, 100, 91);
        Run.of("w9;g9999;g8999;d60;").due("dip(9, 0)", 999).due("dip(8, 0)", 999);
    }

    private static void notDoneFirst() {
        Edge.ofTerms("what it gives was not DONE first, then DONE; where it comes to it is not DONE.");
        int[][] grainsAndDone = {{19, 14, 10}, {15, 10, 10}, {14, 9, 9}, {13, 8, 8}, {11, 6, 6}};
        for (int[] one : grainsAndDone) {
            Run x = Run.of("c0000;g00" + one[0] + ";w5;d01;");
            x.due("dip(0, 0)", one[1]).due("dip(0, 1)", one[2]).due("dip(1, 0)", 100).due("dip(1, 1)", 0);
        }
        Run.of("c0091;g9013;e5;d01;").due("dip(9, 0)", 8).due("dip(9, 1)", 8).due("dip(8, 0)", 100).due("dip(8, 1)", 0);
        // Where he counted already, what comes adds to what is not DONE.
        Run x = Run.of("c0050;c0040;g4010;g5010;w5;d01;");
        x.due("dip(5, 0)", 10).due("dip(5, 1)", 5).due("dip(4, 0)", 10).due("dip(4, 1)", 5).due("dip(6, 1)", 0);
        Run.of("c0090;g9010;w5;d01;").due("dip(9, 0)", 15).due("dip(9, 1)", 10).does("days(1)").due("dip(9, 1)", 15);
        Run.of("c0001;g0010;e5;d01;").due("dip(0, 0)", 15).due("dip(0, 1)", 10).does("days(1)").due("dip(0, 1)", 15);
    }
}
