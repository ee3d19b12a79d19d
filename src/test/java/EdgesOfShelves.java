/** Boundary cases of promises 39 to 45: shelves. */
final class EdgesOfShelves {
    private static final int LEAST = Integer.MIN_VALUE;
    private static final int GREATEST = Integer.MAX_VALUE;
    private static final int[] NO_SHELF = {-1, 8, LEAST, GREATEST};

    private EdgesOfShelves() {
    }

    static void all() {
        atFirst();
        keep();
        row();
        put();
        element();
        copy();
        copyWithinOne();
        copyRefused();
        cost();
        toss();
    }

    private static void atFirst() {
        Edge.ofTerms("SHELVES 0 .. 7 each hold nothing (at first), a KIND of CORPORAL, a ROW.");
        Run x = new Run();
        for (int d = 0; d < 8; d++) {
            x.due("cost(" + d + ")", -11).due("put(" + d + ", 0, 0)", -11).due("desert(" + d + ")", -11);
            x.due("keep(" + d + ", 1, 1, " + d + ")", 0).due("cost(" + d + ")", 4 + d).due("put(" + d + ", 0, 0)", -12);
            x.due("row(" + d + ", 1, 1)", 0).due("cost(" + d + ")", -12).due("put(" + d + ", 0, 0)", 0);
            x.due("keep(" + d + ", 0, 0, 0)", 0).due("cost(" + d + ")", -11);
        }
        for (int d = 0; d < 8; d++) {
            x.due("keep(" + d + ", 1, 1, " + d + ")", 0);
        }
        for (int d = 0; d < 8; d++) {
            x.due("cost(" + d + ")", 4 + d);
        }
        Edge.ofTerms("Their REFUSALS: -11 nothing is held where something is wanted; -12 it is of another kind; "
            + "-13 a place that isn't there (a number or a size that isn't as told, too); -14 a size below 0; "
            + "-15 a FAILURE that is none.");
        x = new Run().does("keep(1, 1, 0, 0)", "row(2, 0, 2)");
        x.due("put(0, 0, 0)", -11).due("put(1, 0, 0)", -12).due("put(2, 2, 0)", -13).due("copy(2, 0, 2, 0, 3)", -13);
        x.due("row(2, 0, -1)", -14).due("toss(1)", -15).due("toss(2)", -12).due("toss(0)", -11);
    }

    private static void keep() {
        Edge.of(39, "SHELF d gets: what = 0 nothing (the others do not matter); 1 a KIND of CORPORAL of KIND k with a FIGURE: 0. -1.");
        Run x = new Run().due("keep(0, 1, 0, 0)", 0).due("toss(0)", -15).due("keep(7, 1, 7, 9)", 0).due("toss(7)", 9);
        x.due("keep(0, 1, 5, 4)", 0).due("toss(0)", 206).due("keep(0, 1, 0, 4)", 0).due("toss(0)", 4);
        for (int bad : NO_SHELF) {
            x.due("keep(" + bad + ", 0, 0, 0)", -1).due("keep(" + bad + ", 1, 0, 0)", -1);
            x.due("keep(7, 1, " + bad + ", 1)", -1);
        }
        for (int bad : new int[] {-1, 2, LEAST, GREATEST}) {
            x.due("keep(7, " + bad + ", 0, 1)", -1);
        }
        for (int bad : new int[] {-1, 10, LEAST, GREATEST}) {
            x.due("keep(7, 1, 0, " + bad + ")", -1);
        }
        x.due("toss(7)", 9).due("toss(0)", 4);
        int[][] others = {{-1, -1}, {8, 10}, {LEAST, GREATEST}, {0, 0}};
        for (int[] other : others) {
            x.does("keep(0, 1, 0, 4)").due("keep(0, 0, " + other[0] + ", " + other[1] + ")", 0).due("cost(0)", -11);
            x.does("row(0, 0, 1)").due("keep(0, 0, " + other[0] + ", " + other[1] + ")", 0).due("put(0, 0, 1)", -11);
        }
        x.due("keep(0, 0, 0, 0)", 0).due("cost(0)", -11);
    }

    private static void row() {
        Edge.ofTerms("A ROW has a SORT (0 bytes, 1 shorts, 2 ints) and 0 .. 100 elements, 0 at first;");
        Edge.of(40, "SHELF d gets a ROW of a SORT: 0. -1 (n above 100); -14.");
        Run x = new Run();
        for (int sort = 0; sort <= 2; sort++) {
            x.due("row(0, " + sort + ", 0)", 0).due("put(0, 0, 1)", -13).due("element(0, 0)", "IllegalStateException");
            x.due("row(0, " + sort + ", 1)", 0).due("put(0, 1, 1)", -13).due("put(0, 0, 1)", 0);
            x.due("row(7, " + sort + ", 100)", 0).due("put(7, 100, 1)", -13).due("put(7, 99, 1)", 0).due("put(7, 0, 1)", 0);
            x.due("row(7, " + sort + ", 100)", 0).due("element(7, 99)", 0).due("element(7, 0)", 0);
            x.due("element(7, 100)", "IllegalStateException").due("row(7, " + sort + ", 101)", -1);
            x.due("row(7, " + sort + ", " + GREATEST + ")", -1).due("row(7, " + sort + ", -1)", -14);
            x.due("row(7, " + sort + ", " + LEAST + ")", -14).due("put(7, 99, 1)", 0);
        }
        for (int i = 0; i < 100; i++) {
            x.does("put(7, " + i + ", -1)");
        }
        // A shorter one and then a longer one again: nothing is left of what was in it.
        x.does("row(7, 2, 3)").due("put(7, 3, 1)", -13).does("row(7, 2, 100)");
        for (int i = 0; i < 100; i++) {
            x.due("element(7, " + i + ")", 0);
        }
        for (int bad : NO_SHELF) {
            x.due("row(" + bad + ", 0, 1)", -1).due("row(" + bad + ", 0, -1)", -1).due("row(" + bad + ", 0, 101)", -1);
        }
        for (int bad : new int[] {-1, 3, LEAST, GREATEST}) {
            x.due("row(0, " + bad + ", 1)", -1).due("row(0, " + bad + ", -1)", -1);
        }
    }

    private static void put() {
        Edge.ofTerms("what is put in keeps its lowest bits.");
        int[] put = {0, 1, -1, 127, 128, -128, -129, 255, 256, -256, 32767, 32768, -32768, -32769, 65535, 65536, 70000, GREATEST, LEAST};
        int[] bytes = {0, 1, -1, 127, -128, -128, 127, -1, 0, 0, -1, 0, 0, -1, -1, 0, 112, -1, 0};
        int[] shorts = {0, 1, -1, 127, 128, -128, -129, 255, 256, -256, 32767, -32768, -32768, 32767, -1, 0, 4464, -1, 0};
        Run x = new Run().does("row(0, 0, 1)", "row(1, 1, 1)", "row(2, 2, 1)");
        for (int i = 0; i < put.length; i++) {
            x.due("put(0, 0, " + put[i] + ")", 0).due("element(0, 0)", bytes[i]);
            x.due("put(1, 0, " + put[i] + ")", 0).due("element(1, 0)", shorts[i]);
            x.due("put(2, 0, " + put[i] + ")", 0).due("element(2, 0)", put[i]);
        }
        Edge.of(41, "Element i of the ROW becomes v: 0. -1, -11, -12, -13.");
        x = new Run().does("row(0, 2, 3)", "row(7, 0, 100)", "keep(2, 1, 0, 0)", "row(4, 0, 0)");
        x.due("put(0, 0, 5)", 0).due("put(0, 2, 7)", 0).due("put(7, 99, 9)", 0);
        x.due("element(0, 0)", 5).due("element(0, 1)", 0).due("element(0, 2)", 7).due("element(7, 99)", 9).due("element(7, 98)", 0);
        x.due("put(0, 0, 6)", 0).due("element(0, 0)", 6);
        for (int bad : NO_SHELF) {
            x.due("put(" + bad + ", 0, 1)", -1);
        }
        x.due("put(1, 0, 1)", -11).due("put(2, 0, 1)", -12).due("put(4, 0, 1)", -13);
        for (int bad : new int[] {-1, 3, 100, LEAST, GREATEST}) {
            x.due("put(0, " + bad + ", 1)", -13);
        }
        for (int bad : new int[] {-1, 100, LEAST, GREATEST}) {
            x.due("put(7, " + bad + ", 1)", -13);
        }
    }

    private static void element() {
        Edge.of(42, "Element i of the ROW. IllegalArgumentException: no such SHELF; IllegalStateException: no ROW, no such place.");
        Run x = new Run().tell(0, 2, LEAST, 0, GREATEST).tell(7, 0, -128, 127).does("keep(2, 1, 0, 0)", "row(4, 0, 0)");
        x.due("element(0, 0)", LEAST).due("element(0, 2)", GREATEST).due("element(7, 0)", -128).due("element(7, 1)", 127);
        for (int bad : NO_SHELF) {
            x.due("element(" + bad + ", 0)", "IllegalArgumentException").due("element(" + bad + ", -1)", "IllegalArgumentException");
        }
        for (int bad : new int[] {-1, 3, 100, LEAST, GREATEST}) {
            x.due("element(0, " + bad + ")", "IllegalStateException");
        }
        x.due("element(1, 0)", "IllegalStateException").due("element(2, 0)", "IllegalStateException");
        x.due("element(4, 0)", "IllegalStateException").due("element(7, 2)", "IllegalStateException");
        x.does("keep(0, 0, 0, 0)").due("element(0, 0)", "IllegalStateException");
    }

    private static void elementsDue(Run x, int d, int... due) {
        for (int i = 0; i < due.length; i++) {
            x.due("element(" + d + ", " + i + ")", due[i]);
        }
    }

    private static void copy() {
        Edge.of(43, "n elements of the ROW in SHELF d from i on come to that in SHELF e from j on: n. "
            + "-1, -11 (either), -12 (no ROWS of one SORT), -13 (n below 0, too).");
        for (int sort = 0; sort <= 2; sort++) {
            Run x = new Run().tell(0, sort, 1, 2, 3).tell(7, sort, 4, 5);
            x.due("copy(0, 1, 7, 0, 1)", 1);
            elementsDue(x, 7, 2, 5);
            x.due("copy(0, 0, 7, 1, 1)", 1);
            elementsDue(x, 7, 2, 1);
            x.due("copy(0, 1, 7, 0, 2)", 2).due("copy(7, 0, 0, 0, 2)", 2);
            elementsDue(x, 7, 2, 3);
            elementsDue(x, 0, 2, 3, 3);
            x.due("copy(0, 0, 7, 0, 0)", 0).due("copy(0, 2, 7, 1, 0)", 0);
            elementsDue(x, 7, 2, 3);
            int least = EdgesOfHowMany.LEAST_OF_SORT[sort];
            Run whole = new Run().does("row(0, " + sort + ", 100)", "row(1, " + sort + ", 100)", "put(0, 0, " + least + ")",
                "put(0, 99, " + (least + 1) + ")");
            whole.due("copy(0, 0, 1, 0, 100)", 100).due("element(1, 0)", least).due("element(1, 99)", least + 1);
            whole.due("copy(0, 0, 1, 0, 101)", -13).due("copy(0, 1, 1, 0, 100)", -13).due("copy(0, 0, 1, 1, 100)", -13);
            whole.does("row(2, " + sort + ", 0)").due("copy(2, 0, 0, 0, 1)", -13).due("copy(0, 0, 2, 0, 1)", -13);
        }
    }

    private static void copyWithinOne() {
        Edge.of(43, "n elements of the ROW in SHELF d from i on come to that in SHELF e from j on: n.");
        Run x = new Run().tell(0, 1, 1, 2, 3, 4, 5).due("copy(0, 0, 0, 1, 4)", 4);
        elementsDue(x, 0, 1, 1, 2, 3, 4);
        x.tell(0, 1, 1, 2, 3, 4, 5).due("copy(0, 1, 0, 0, 4)", 4);
        elementsDue(x, 0, 2, 3, 4, 5, 5);
        x.tell(0, 1, 1, 2, 3, 4, 5).due("copy(0, 0, 0, 0, 5)", 5);
        elementsDue(x, 0, 1, 2, 3, 4, 5);
        x.tell(0, 1, 1, 2, 3, 4, 5).due("copy(0, 0, 0, 2, 3)", 3);
        elementsDue(x, 0, 1, 2, 1, 2, 3);
    }

    private static void copyRefused() {
        Edge.of(43, "-1, -11 (either), -12 (no ROWS of one SORT), -13 (n below 0, too).");
        Run x = new Run().tell(0, 1, 1, 2, 3).tell(1, 1, 4, 5).does("row(2, 0, 3)", "row(3, 2, 3)", "keep(4, 1, 0, 0)");
        for (int bad : NO_SHELF) {
            x.due("copy(" + bad + ", 0, 1, 0, 1)", -1).due("copy(0, 0, " + bad + ", 0, 1)", -1);
        }
        x.due("copy(5, 0, 1, 0, 1)", -11).due("copy(0, 0, 5, 0, 1)", -11).due("copy(5, 0, 5, 0, 1)", -11);
        x.due("copy(4, 0, 1, 0, 1)", -12).due("copy(0, 0, 4, 0, 1)", -12).due("copy(4, 0, 4, 0, 1)", -12);
        // Of one SORT is none, whatever stood on the SHELF ahead of a CORPORAL.
        x.does("row(6, 1, 3)", "keep(6, 1, 0, 0)").due("copy(6, 0, 0, 0, 1)", -12).due("copy(0, 0, 6, 0, 1)", -12);
        x.due("copy(4, 0, 2, 0, 1)", -12).due("copy(2, 0, 4, 0, 1)", -12);
        x.due("copy(0, 0, 2, 0, 1)", -12).due("copy(2, 0, 0, 0, 1)", -12).due("copy(0, 0, 3, 0, 1)", -12);
        x.due("copy(2, 0, 3, 0, 1)", -12).due("copy(3, 0, 2, 0, 0)", -12);
        for (int bad : new int[] {-1, 4, LEAST, GREATEST}) {
            x.due("copy(0, 0, 1, 0, " + bad + ")", -13);
            x.due("copy(0, " + bad + ", 1, 0, 1)", -13).due("copy(0, 0, 1, " + bad + ", 1)", -13);
            x.due("copy(0, " + bad + ", 1, 0, 0)", -13).due("copy(0, 0, 1, " + bad + ", 0)", -13);
            x.due("copy(0, " + bad + ", 1, " + bad + ", " + bad + ")", -13);
        }
        x.due("copy(0, 0, 1, 0, 3)", -13).due("copy(1, 0, 0, 0, 3)", -13);
        x.due("copy(0, 2, 1, 0, 2)", -13).due("copy(0, 0, 1, 1, 2)", -13).due("copy(0, 3, 1, 0, 1)", -13).due("copy(0, 0, 1, 2, 1)", -13);
        // Sums of these pass what an int holds.
        x.due("copy(0, 1, 1, 0, " + GREATEST + ")", -13).due("copy(0, " + GREATEST + ", 1, 0, 2)", -13);
        x.due("copy(0, 0, 1, " + GREATEST + ", 2)", -13).due("copy(0, " + LEAST + ", 1, " + LEAST + ", " + LEAST + ")", -13);
        elementsDue(x, 0, 1, 2, 3);
        elementsDue(x, 1, 4, 5);
    }

    private static void cost() {
        Edge.of(44, "COST of the one on SHELF d: CORPORAL 4; HONEST FIGURE more; GUESSER 2; SLOW 1 less than a CORPORAL's; SAINT 0; "
            + "STAFF FIGURE more than a GUESSER's; SLEEPER half of a SLOW one's, cut; RECRUIT as a CORPORAL. -1, -11, -12 (a ROW).");
        Edge.ofTerms("of a KIND (or SORT) \"n more\", \"n less\" without more words is: than what the one it is under has;");
        int[][] of0And9 = {{4, 4}, {4, 13}, {2, 2}, {3, 3}, {0, 0}, {2, 11}, {1, 1}, {4, 4}};
        Run x = new Run();
        for (int kind = 0; kind < 8; kind++) {
            for (int figure = 0; figure < 10; figure++) {
                int[] due = of0And9[kind];
                x.does("keep(" + kind + ", 1, " + kind + ", " + figure + ")");
                x.due("cost(" + kind + ")", due[0] == due[1] ? due[0] : due[0] + figure);
            }
        }
        refusals("cost");
    }

    private static void refusals(String name) {
        Run x = new Run().does("row(3, 0, 1)", "row(4, 2, 0)");
        for (int bad : NO_SHELF) {
            x.due(name + "(" + bad + ")", -1);
        }
        x.due(name + "(0)", -11).due(name + "(7)", -11).due(name + "(3)", -12).due(name + "(4)", -12);
        x.does("keep(3, 0, 0, 0)").due(name + "(3)", -11).does("keep(3, 1, 7, 4)").due(name + "(3)", 4);
    }

    private static void toss() {
        Edge.of(45, "The FAILURE of the one on SHELF d is thrown, and caught: its FIGURE; of GUESSERS 100 more (of STAFF, too); "
            + "of STAFF 200 plus their COST, in place of all that (FIGURE, too). -1, -11, -12 (a ROW); "
            + "-15: SLOW ones, SLEEPERS, and any with FIGURE 0, have none.");
        Run x = new Run();
        for (int kind = 0; kind < 8; kind++) {
            x.does("keep(" + kind + ", 1, " + kind + ", 0)").due("toss(" + kind + ")", -15);
            for (int figure = 1; figure < 10; figure++) {
                x.does("keep(" + kind + ", 1, " + kind + ", " + figure + ")");
                boolean none = kind == 3 || kind == 6;
                x.due("toss(" + kind + ")", none ? -15 : kind == 2 ? 100 + figure : kind == 5 ? 202 + figure : figure);
            }
        }
        refusals("toss");
    }
}
