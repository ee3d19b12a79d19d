/** Boundary cases of what there is in the desert and what each kind does, and of promises 1 and 3 to 11. */
final class EdgesOfDesert {
    private static final int LEAST = Integer.MIN_VALUE;
    private static final int GREATEST = Integer.MAX_VALUE;

    private EdgesOfDesert() {
    }

    static void all() {
        aNewObject();
        dipsAndGrains();
        corporals();
        kindsAndFigures();
        windAndDay();
        counts();
        books();
        corporal();
        dip();
        comes();
        fills();
        blows();
        rests();
        moves();
        flood();
        days();
    }

    private static void aNewObject() {
        Edge.of(1, "100 GRAINS in each DIP, no CORPORALS.");
        Run x = new Run().due("count(0)", 0).due("count(2)", 1000).due("corporal(0, 0)", -1);
        for (int dip = 0; dip < 10; dip++) {
            x.due("dip(" + dip + ", 0)", 100).due("dip(" + dip + ", 2)", 0);
        }
        Run last = new Run();
        for (int i = 0; i < 511; i++) {
            last.does("rests(0)");
        }
        Check.about("What it is \"An object is used for at most 512 calls\"");
        last.due("count(2)", 1000);
    }

    private static void dipsAndGrains() {
        Edge.ofTerms("DIPS 0 .. 9 in a row, each with GRAINS (0 .. 999; 100 at first)");
        Run x = new Run().due("dip(0, 0)", 100).due("dip(9, 0)", 100).due("dip(-1, 0)", -1).due("dip(10, 0)", -1);
        x.due("fills(0, -1)", -1).due("fills(0, 1000)", -1).due("fills(0, 0)", 100).due("fills(9, 999)", 100);
        x.due("dip(0, 0)", 0).due("dip(9, 0)", 999);
        // In a row: what is blown on at its end comes to no other end.
        Run.withGrains("w9;d60;", 9, 50).does("days(1)").due("dip(9, 0)", 50).due("dip(0, 0)", 0);
        Run.withGrains("e9;d60;", 0, 50).does("days(1)").due("dip(0, 0)", 50).due("dip(9, 0)", 0);
        Edge.ofTerms("and how many of them are DONE (0 .. GRAINS; 0 at first).");
        new Run().due("dip(0, 1)", 0).due("dip(9, 1)", 0).due("count(3)", 0);
        Run.of("c0900;g0020;d01;").due("dip(0, 1)", 19).does("days(1)").due("dip(0, 1)", 20).does("moves(0, 0)", "days(1)")
            .due("dip(0, 1)", 20);
        Run.of("c0000;g0010;w9;").does("days(1)").due("dip(0, 0)", 1).due("dip(0, 1)", 1).does("days(1)")
            .due("dip(0, 0)", 0).due("dip(0, 1)", 0).does("days(1)").due("dip(0, 0)", 0).due("dip(0, 1)", 0);
    }

    private static void corporals() {
        Edge.ofTerms("CORPORALS 0 .. 5 as they come (6 at most), of KINDS,");
        Run x = new Run().does("keep(0, 1, 0, 0)");
        for (int c = 0; c < 6; c++) {
            x.due("count(0)", c).due("corporal(" + c + ", 2)", -1).due("comes(0, " + c + ", 0)", c);
            x.due("corporal(" + c + ", 2)", c);
        }
        x.due("comes(0, 6, 0)", -2).due("count(0)", 6).due("corporal(6, 2)", -1).due("corporal(-1, 2)", -1);
        Edge.ofTerms("AT a DIP, a WAY (0 to greater DIPS, 1 to lesser), a BOOK (0 .. 9999; 0 at first), RESTING or not (not at first).");
        x = new Run().does("keep(0, 1, 0, 0)", "comes(0, 5, 0)", "comes(0, 5, 1)", "fills(5, 0)");
        for (int c = 0; c < 2; c++) {
            x.due("corporal(" + c + ", 3)", c).due("corporal(" + c + ", 4)", 0).due("corporal(" + c + ", 5)", 0);
        }
        x.due("comes(0, 5, 2)", -1).due("comes(0, 5, -1)", -1);
        x.does("days(1)").due("corporal(0, 2)", 6).due("corporal(1, 2)", 4);
        bookAtMost();
    }

    private static void bookAtMost() {
        Run x = Run.of("c5000;");
        for (int i = 0; i < 9; i++) {
            x.does("fills(0, 999)", "moves(0, 0)", "days(1)");
        }
        x.due("corporal(0, 4)", 9000);
        x.does("fills(0, 998)", "moves(0, 0)").due("days(1)", 9998).does("fills(0, 1)", "moves(0, 0)");
        Edge.ofTerms("(9999 at most)");
        x.due("corporalThen(0, 1, 1)", 9999).due("days(1)", 9999).due("corporal(0, 4)", 9999).due("dip(0, 1)", 1);
        x.does("fills(1, 999)", "moves(0, 1)").due("days(1)", 9999).due("dip(1, 1)", 500).due("count(4)", 9999);
        x.due("corporalThen(0, 60, 1)", 9999);
    }

    private static void kindsAndFigures() {
        Edge.ofTerms("KINDS: 0 CORPORAL; 1 HONEST under CORPORAL; 2 GUESSER under CORPORAL; 3 SLOW under CORPORAL; "
            + "4 SAINT under HONEST; 5 STAFF under GUESSER; 6 SLEEPER under SLOW; 7 RECRUIT under CORPORAL.");
        for (int kind = 0; kind < 8; kind++) {
            Run x = new Run().due("keep(0, 1, " + kind + ", 4)", 0).does("comes(0, 0, 0)").due("corporal(0, 0)", kind);
            Run.of("c" + kind + "400;").due("corporal(0, 0)", kind);
        }
        new Run().due("keep(0, 1, -1, 4)", -1).due("keep(0, 1, 8, 4)", -1).due("cost(0)", -11);
        Edge.ofTerms("each with a FIGURE (0 .. 9),");
        for (int figure = 0; figure < 10; figure++) {
            new Run().due("keep(0, 1, 0, " + figure + ")", 0).does("comes(0, 0, 0)").due("corporal(0, 1)", figure);
        }
        new Run().due("keep(0, 1, 0, -1)", -1).due("keep(0, 1, 0, 10)", -1).due("cost(0)", -11);
    }

    private static void windAndDay() {
        Edge.ofTerms("WIND (-9 .. 9 GRAINS a DAY, to greater DIPS if above 0; 0 at first).");
        Run x = new Run().due("count(6)", 9).does("days(1)").due("dip(0, 0)", 100).due("dip(9, 0)", 100);
        x.due("blows(10)", 1000000001).due("blows(-10)", 1000000001).due("count(6)", 9);
        x.due("blows(9)", 0).does("days(1)").due("dip(0, 0)", 91).due("dip(5, 0)", 100).due("dip(9, 0)", 109);
        x.due("blows(-9)", 9).does("days(1)").due("dip(0, 0)", 100).due("dip(5, 0)", 100).due("dip(9, 0)", 100);
        x.due("blows(1)", -9).does("days(1)").due("dip(0, 0)", 99).due("dip(9, 0)", 101);
        x.due("blows(-1)", 1).does("days(1)").due("dip(0, 0)", 100).due("dip(9, 0)", 100);
        Edge.ofTerms("DAY (0 .. 999; 0 at first).");
        x = new Run().due("count(1)", 0);
        for (int i = 0; i < 16; i++) {
            x.does("days(60)");
        }
        x.due("count(1)", 960).due("days(40)", -3).due("days(39)", 0).due("count(1)", 999).due("days(1)", -3);
        x.due("count(1)", 999);
    }

    /** Of a kind with a figure among so many that are not done: what he counts and what is in his book, on an odd or an even day. */
    private static void countsDue(int kind, int figure, int left, int counted, int book, boolean odd) {
        String grains = String.valueOf(1000 + left).substring(1);
        Run x = Run.of((odd ? "" : "d01;") + "c" + kind + figure + "50;g5" + grains + ";");
        x.due("corporal(0, 6)", counted).due("days(1)", book).due("dip(5, 1)", counted).due("corporal(0, 4)", book);
    }

    private static void countsOnBothDue(int kind, int figure, int left, int counted, int book) {
        countsDue(kind, figure, left, counted, book, true);
        countsDue(kind, figure, left, counted, book, false);
    }

    /** Of who writes what he counts: with figure 0 and with figure 9, each among more, as many and fewer than he can count. */
    private static void countsUpTo(int kind, int of0, int of9) {
        for (int more = -1; more <= 1; more++) {
            countsOnBothDue(kind, 0, of0 + more, Math.min(of0, of0 + more), Math.min(of0, of0 + more));
            countsOnBothDue(kind, 9, of9 + more, Math.min(of9, of9 + more), Math.min(of9, of9 + more));
        }
        countsOnBothDue(kind, 0, 0, 0, 0);
        countsOnBothDue(kind, 9, 1, 1, 1);
        countsOnBothDue(kind, 9, 999, of9, of9);
    }

    private static void counts() {
        Edge.ofTerms("COUNTS (GRAINS a DAY, u not DONE where he is): CORPORAL 10 and FIGURE;");
        countsUpTo(0, 10, 19);
        // By what is not DONE, not by GRAINS.
        Run.of("c0000;d09;c2000;").due("corporal(1, 6)", 5).does("days(1)").due("corporal(1, 4)", 0);
        Edge.ofTerms("HONEST 1 less;");
        countsUpTo(1, 9, 18);
        Edge.ofTerms("GUESSER half of u, rounded up;");
        int[][] ofU = {{0, 0}, {1, 1}, {2, 1}, {3, 2}, {4, 2}, {5, 3}, {998, 499}, {999, 500}};
        for (int[] u : ofU) {
            countsOnBothDue(2, 0, u[0], u[1], u[1]);
        }
        Edge.ofTerms("SLOW half of a CORPORAL's, cut;");
        countsUpTo(3, 5, 9);
        countsOnBothDue(3, 1, 100, 5, 5);
        countsOnBothDue(3, 2, 100, 6, 6);
        Edge.ofTerms("SAINT half of an HONEST one's, cut, and 1;");
        countsUpTo(4, 5, 10);
        countsOnBothDue(4, 1, 100, 6, 6);
        countsOnBothDue(4, 2, 100, 6, 6);
        Edge.ofTerms("STAFF as a GUESSER, but 20 at least;");
        ofU = new int[][] {{0, 0}, {1, 1}, {19, 19}, {20, 20}, {21, 20}, {39, 20}, {40, 20}, {41, 21}, {42, 21}, {43, 22}, {999, 500}};
        for (int[] u : ofU) {
            countsOnBothDue(5, 0, u[0], u[1], 2 * u[1]);
        }
        Edge.ofTerms("SLEEPER as a SLOW one on even DAYS, else 0;");
        int[][] ofSleeper = {{0, 0, 0}, {0, 4, 4}, {0, 5, 5}, {0, 6, 5}, {1, 100, 5}, {2, 100, 6}, {9, 8, 8}, {9, 9, 9}, {9, 999, 9}};
        for (int[] one : ofSleeper) {
            countsDue(6, one[0], one[1], one[2], Math.max(0, one[2] - 1), false);
            countsDue(6, one[0], one[1], 0, 0, true);
        }
        Edge.ofTerms("RECRUIT FIGURE and 1;");
        countsUpTo(7, 1, 10);
        neverMoreThanIsThere();
    }

    private static void neverMoreThanIsThere() {
        Edge.ofTerms("never more than u.");
        for (int kind = 0; kind < 8; kind++) {
            for (int left = 0; left <= 2; left++) {
                Run x = Run.of("d01;c" + kind + "950;g500" + left + ";d01;");
                x.due("dip(5, 1)", kind == 2 && left == 2 ? 1 : left);
                Run.of("c0050;g5010;d01;c" + kind + "950;").due("corporal(1, 6)", 0);
            }
        }
    }

    private static void books() {
        Edge.ofTerms("BOOKS (what he writes for c counted): CORPORAL c;");
        countsOnBothDue(0, 9, 7, 7, 7);
        Edge.ofTerms("GUESSER c and FIGURE, if c is above 0;");
        int[][] ofU = {{0, 0}, {1, 1}, {2, 1}, {3, 2}, {999, 500}};
        for (int[] u : ofU) {
            for (int figure = 0; figure <= 9; figure += 3) {
                countsOnBothDue(2, figure, u[0], u[1], u[0] == 0 ? 0 : u[1] + figure);
            }
        }
        Edge.ofTerms("STAFF twice c;");
        for (int[] u : new int[][] {{0, 0}, {1, 1}, {20, 20}, {100, 50}}) {
            countsOnBothDue(5, 9, u[0], u[1], 2 * u[1]);
        }
        Edge.ofTerms("SLEEPER 1 less (0 at least);");
        for (int left = 0; left <= 3; left++) {
            countsDue(6, 9, left, left, Math.max(0, left - 1), false);
            countsDue(6, 9, left, 0, 0, true);
        }
        Edge.ofTerms("others as what they are under.");
        for (int kind : new int[] {1, 3, 4, 7}) {
            for (int left = 0; left <= 2; left++) {
                countsOnBothDue(kind, 9, left, left, left);
            }
        }
    }

    private static void corporal() {
        Edge.of(3, "Of one: KIND (what 0), FIGURE (1), AT (2), WAY (3), BOOK (4), 1 he RESTS (5), "
            + "what he would COUNT on the DAY to come where he is (6; RESTING or not). -1.");
        Run x = Run.of("c7000;c0000;c6991;r2;");
        int[][] due = {{7, 0, 0, 0, 0, 0, 1}, {0, 0, 0, 0, 0, 0, 10}, {6, 9, 9, 1, 0, 1, 0}};
        for (int c = 0; c < 3; c++) {
            for (int what = 0; what < 7; what++) {
                x.due("corporal(" + c + ", " + what + ")", due[c][what]);
            }
        }
        x.does("days(1)").due("corporal(0, 4)", 1).due("corporal(1, 4)", 10).due("corporal(2, 4)", 0);
        x.due("corporal(2, 6)", 9).does("rests(2)").due("corporal(2, 6)", 9).due("corporal(2, 5)", 0);
        x.does("days(1)").due("corporal(2, 6)", 0);
        // What those ahead of him will have counted by then is still there now.
        x.does("fills(0, 7)").due("corporal(0, 6)", 1).due("corporal(1, 6)", 7);
        for (int bad : new int[] {-1, 3, 6, LEAST, GREATEST}) {
            x.due("corporal(" + bad + ", 0)", -1);
        }
        for (int bad : new int[] {-1, 7, LEAST, GREATEST}) {
            x.due("corporal(0, " + bad + ")", -1);
        }
        x = Run.of("c7000;").does("keep(0, 1, 0, 9)", "comes(0, 0, 0)").due("corporal(1, 6)", 19).does("moves(1, 4)", "fills(4, 18)");
        x.due("corporal(1, 6)", 18).does("fills(4, 20)").due("corporal(1, 6)", 19);
        // The DAY to come behind the last one is even.
        lastDay("c6050;c0051;").due("corporal(0, 6)", 5).due("corporal(1, 6)", 10);
    }

    /** On day 999, which is behind what the text does. */
    static Run lastDay(String text) {
        Run x = new Run();
        for (int i = 0; i < 16; i++) {
            x.does("days(60)");
        }
        return x.does("days(39)").write(7, text).does("desert(7)", "keep(7, 0, 0, 0)");
    }

    private static void dip() {
        Edge.of(4, "GRAINS (what 0), DONE (1), CORPORALS (2, bits) of a DIP. -1.");
        Run x = Run.of("c0000;c0090;c0000;c0001;c0000;c0001;g9999;d01;");
        x.due("dip(0, 0)", 100).due("dip(0, 1)", 50).due("dip(0, 2)", 1 + 4 + 8 + 16 + 32);
        x.due("dip(9, 0)", 999).due("dip(9, 1)", 10).due("dip(9, 2)", 2).due("dip(5, 2)", 0);
        x.does("rests(5)").due("dip(0, 2)", 1 + 4 + 8 + 16 + 32);
        for (int bad : new int[] {-1, 10, LEAST, GREATEST}) {
            x.due("dip(" + bad + ", 0)", -1).due("dip(" + bad + ", 2)", -1);
        }
        for (int bad : new int[] {-1, 3, LEAST, GREATEST}) {
            x.due("dip(0, " + bad + ")", -1);
        }
    }

    private static void comes() {
        Edge.of(5, "The one on SHELF d comes AT a DIP, with a WAY: the number. -1, -11, -12 (a ROW), -2.");
        Run x = new Run().does("keep(0, 1, 0, 0)", "keep(7, 1, 7, 9)", "row(3, 0, 0)");
        x.due("comes(0, 0, 0)", 0).due("comes(7, 9, 1)", 1).due("corporal(1, 0)", 7).due("corporal(1, 1)", 9);
        x.due("corporal(0, 2)", 0).due("corporal(1, 2)", 9).due("corporal(0, 3)", 0).due("corporal(1, 3)", 1);
        for (int bad : new int[] {-1, 8, LEAST, GREATEST}) {
            x.due("comes(" + bad + ", 0, 0)", -1);
        }
        for (int bad : new int[] {-1, 10, LEAST, GREATEST}) {
            x.due("comes(0, " + bad + ", 0)", -1);
        }
        for (int bad : new int[] {-1, 2, LEAST, GREATEST}) {
            x.due("comes(0, 0, " + bad + ")", -1);
        }
        x.due("comes(1, 0, 0)", -11).due("comes(3, 0, 0)", -12).due("count(0)", 2);
        for (int c = 2; c < 6; c++) {
            x.due("comes(0, 0, 0)", c);
        }
        x.due("comes(0, 0, 0)", -2).due("comes(7, 9, 1)", -2).due("count(0)", 6);
        // Who has gone to a SHELF again has left no room.
        x.does("keep(0, 1, 1, 1)").due("comes(0, 0, 0)", -2);
        Edge.ofTerms("The ROW of a text, and what is taken from a SHELF, stay there;");
        x.due("cost(0)", 5).due("cost(7)", 4).due("toss(7)", 9);
    }

    private static void fills() {
        Edge.of(6, "GRAINS become v (nothing is DONE then): what they were. -1.");
        Run x = Run.of("c0900;c0990;d01;");
        x.due("dip(0, 1)", 19).due("fills(0, 100)", 100).due("dip(0, 1)", 0).due("dip(9, 1)", 19);
        x.due("fills(9, 999)", 100).due("dip(9, 1)", 0).due("fills(9, 0)", 999).due("fills(9, 1)", 0).due("dip(9, 0)", 1);
        for (int bad : new int[] {-1, 10, LEAST, GREATEST}) {
            x.due("fills(" + bad + ", 5)", -1);
        }
        for (int bad : new int[] {-1, 1000, LEAST, GREATEST}) {
            x.due("fills(1, " + bad + ")", -1);
        }
        x.due("dip(1, 0)", 100).due("count(4)", 38);
    }

    private static void blows() {
        Edge.of(7, "WIND becomes v: what it was. Refused as told: -1.");
        Run x = new Run().due("blows(-9)", 0).due("blows(9)", -9).due("blows(-1)", 9).due("blows(0)", -1).due("blows(0)", 0);
        for (int bad : new int[] {-10, 10, LEAST, GREATEST}) {
            x.due("blows(" + bad + ")", 1000000001);
        }
        x.due("count(6)", 9);
    }

    private static void rests() {
        Edge.of(8, "He RESTS, or not any more: 1, 0. -1.");
        Run x = Run.of("c0000;c0000;c0000;c0000;c0000;c0000;");
        x.due("rests(5)", 1).due("count(5)", 32).due("rests(0)", 1).due("count(5)", 33).due("rests(5)", 0).due("count(5)", 1);
        x.due("corporal(0, 5)", 1).due("corporal(5, 5)", 0);
        for (int bad : new int[] {-1, 6, 32, LEAST, GREATEST}) {
            x.due("rests(" + bad + ")", -1);
        }
        x.due("count(5)", 1);
        new Run().due("rests(0)", -1).due("count(5)", 0);
        Run.of("c0000;").due("rests(1)", -1).due("count(5)", 0);
    }

    private static void moves() {
        Edge.of(9, "He is AT a DIP: where he was. -1.");
        Run x = Run.of("c0000;c0091;r0;");
        x.due("moves(0, 9)", 0).due("moves(0, 0)", 9).due("moves(0, 0)", 0).due("moves(1, 0)", 9).due("dip(0, 2)", 3);
        for (int bad : new int[] {-1, 2, 6, LEAST, GREATEST}) {
            x.due("moves(" + bad + ", 0)", -1);
        }
        for (int bad : new int[] {-1, 10, LEAST, GREATEST}) {
            x.due("moves(0, " + bad + ")", -1);
        }
        x.due("dip(0, 2)", 3).due("corporal(0, 3)", 0).due("corporal(1, 3)", 1).due("count(5)", 1);
    }

    private static void flood() {
        Edge.of(10, "The FLOOD: all that was in BOOKS.");
        new Run().due("flood()", 0);
        Run x = Run.of("c0000;c5990;c0050;c0050;c0050;c7190;r3;w1;d02;");
        // The STAFF counts 50 of 100, then 25 of the 49 that are left and blown there, and writes them twice.
        x.due("count(4)", 20 + 2 * 75 + 20 + 0 + 20 + 4).due("flood()", 214).due("flood()", 0);
        x.due("count(3)", 0).due("count(4)", 0).due("corporal(5, 4)", 0).due("dip(9, 1)", 0);
        Run.of("c0000;c0050;d01;r1;").due("flood()", 20).due("corporal(1, 4)", 0).due("corporal(1, 5)", 1).due("dip(5, 1)", 0);
        x.due("count(0)", 6).due("count(1)", 2).due("count(2)", 1000).due("count(5)", 8).due("count(6)", 10).due("dip(0, 0)", 98);
    }

    private static void days() {
        Edge.of(11, "n DAYS (1 .. 60): all BOOKS. -1, -3 DAY above 999.");
        Run x = Run.of("c0000;c0150;g0999;g5999;");
        x.due("days(1)", 21).due("count(1)", 1).due("days(60)", 21 * 61).due("count(1)", 61);
        for (int bad : new int[] {-1, 0, 61, LEAST, GREATEST}) {
            x.due("days(" + bad + ")", -1);
        }
        x.due("count(1)", 61).due("count(4)", 21 * 61);
        for (int i = 0; i < 15; i++) {
            x.does("days(60)");
        }
        x.due("count(1)", 961);
        Edge.ofTerms("days() is refused (-3; in THE TEXT kind 2), if DAY and n together are above 999; none of them goes then.");
        x.due("days(39)", -3).due("days(60)", -3).due("count(1)", 961).due("days(38)", 8 * 100 + 2 * 999).due("count(1)", 999);
        x.due("days(1)", -3).due("days(60)", -3).due("count(1)", 999);
        x = Run.of("c0000;");
        for (int i = 0; i < 16; i++) {
            x.does("days(60)");
        }
        x.does("fills(9, 999)", "flood()", "moves(0, 9)");
        x.due("days(40)", -3).due("count(4)", 0).due("dip(9, 1)", 0);
        x.write(0, "d40;").due("desert(0)", -2000).due("count(1)", 960).due("count(4)", 0).due("dip(9, 1)", 0);
        x.write(0, "d39;").due("desert(0)", 1).due("count(1)", 999).due("count(4)", 390).due("dip(9, 1)", 390);
        x.write(0, "d01;").due("desert(0)", -2000).due("count(1)", 999);
    }
}
