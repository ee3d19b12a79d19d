/** Boundary cases of promises 19 to 27: winds, whom to send. */
final class EdgesOfWinds {
    private static final int[] NO_DAYS_ON = {-1, 61, 999, Integer.MIN_VALUE, Integer.MAX_VALUE};
    private static final int[] NO_CORPORAL_OF_2 = {-1, 2, 6, Integer.MIN_VALUE, Integer.MAX_VALUE};
    private static final int[] NEITHER_0_NOR_1 = {-1, 2, Integer.MIN_VALUE, Integer.MAX_VALUE};

    private EdgesOfWinds() {
    }

    static void all() {
        bestWind();
        send();
        idle();
        slowest();
        lost();
        heap();
        begin();
        pairs();
        even();
    }

    private static void bothDue(Run x, String call, int of0, int of1) {
        x.due(call.replace("what", "0"), of0).due(call.replace("what", "1"), of1);
    }

    private static void bestWind() {
        Edge.ofTerms("BEST WIND (-9 .. 9): the one by which all BOOKS together are most behind n DAYS, of several the least; that.");
        Run x = Run.withGrains("c0990;w3;", 8, 999);
        bothDue(x, "bestWind(0, what)", -9, 0);
        bothDue(x, "bestWind(1, what)", -9, 0);
        bothDue(x, "bestWind(2, what)", 9, 9);
        bothDue(x, "bestWind(60, what)", 9, 9 * 59);
        x.due("count(6)", 12);
        bothDue(Run.withGrains("c0901;", 1, 999), "bestWind(2, what)", -9, 9);
        // 8 and 9 bring all 8; 1 brings 1.
        bothDue(Run.withGrains("c0990;", 8, 8), "bestWind(2, what)", 8, 8);
        bothDue(Run.withGrains("c0990;", 8, 1), "bestWind(2, what)", 1, 1);
        bothDue(Run.withGrains("c0901;", 1, 3), "bestWind(2, what)", -9, 3);
        // Any WIND takes some away from where he is.
        bothDue(Run.withGrains("c0040;w5;", 4, 20), "bestWind(2, what)", 0, 20);
        bothDue(Run.withGrains("c0041;e5;", 4, 20), "bestWind(2, what)", 0, 20);
        // What was in BOOKS is told, too, of all of them.
        bothDue(Run.of("c0000;c0050;c0091;d03;"), "bestWind(0, what)", -9, 90);
        bothDue(new Run(), "bestWind(60, what)", -9, 0);
        Edge.of(19, "BEST WIND (what 0), that (1). Refused as told: -1.");
        for (int bad : NO_DAYS_ON) {
            bothDue(x, "bestWind(" + bad + ", what)", 1000000001, 1000000001);
        }
        for (int bad : NEITHER_0_NOR_1) {
            x.due("bestWind(0, " + bad + ")", 1000000001);
        }
    }

    private static void send() {
        Edge.ofTerms("SEND: the DIP for a CORPORAL (he is there now) by which most DIPS are DONE behind n DAYS, of several the least; how many.");
        Run x = Run.of("c0050;c0051;r1;g4010;g5010;g6010;");
        bothDue(x, "send(0, 0, what)", 0, 0);
        bothDue(x, "send(0, 1, what)", 4, 1);
        x.does("moves(1, 9)");
        bothDue(x, "send(0, 2, what)", 4, 2);
        bothDue(x, "send(0, 3, what)", 4, 3);
        // Who RESTS does nothing wherever he is; the 2 are the other one's.
        bothDue(x, "send(1, 3, what)", 0, 2);
        x.due("corporal(0, 2)", 5).due("corporal(1, 2)", 9);
        // By another one's WAY; by what others do.
        bothDue(Run.of("c0051;c0090;g4010;g5010;g6010;"), "send(0, 2, what)", 5, 2);
        bothDue(Run.of("c0051;c0090;g9010;g5010;"), "send(0, 1, what)", 5, 2);
        bothDue(Run.of("c0000;g9010;"), "send(0, 1, what)", 9, 1);
        bothDue(Run.of("c0000;g9010;g0000;g1000;"), "send(0, 1, what)", 9, 3);
        bothDue(Run.withGrains("c0050;"), "send(0, 60, what)", 0, 10);
        bothDue(Run.withGrains("c0050;", 0, 10), "send(0, 1, what)", 0, 10);
        bothDue(Run.withGrains("c0050;", 0, 11), "send(0, 1, what)", 0, 9);
        Edge.of(20, "SEND: the DIP (what 0), how many (1). -1.");
        for (int bad : NO_CORPORAL_OF_2) {
            bothDue(x, "send(" + bad + ", 1, what)", -1, -1);
        }
        for (int bad : NO_DAYS_ON) {
            bothDue(x, "send(0, " + bad + ", what)", -1, -1);
        }
        for (int bad : NEITHER_0_NOR_1) {
            x.due("send(0, 0, " + bad + ")", -1);
        }
        new Run().due("send(0, 0, 0)", -1);
    }

    private static void idle() {
        Edge.ofTerms("IDLE: the CORPORAL without whom (he RESTS from now on) as much or more is in all BOOKS together "
            + "behind n DAYS as with him, of several the least; -4.");
        new Run().due("idle(0)", -4).due("idle(60)", -4);
        Run x = Run.of("c0000;c0010;c0020;").due("idle(0)", 0).due("idle(1)", -4).due("idle(10)", -4);
        x.does("rests(2)").due("idle(1)", 2).does("rests(1)").due("idle(1)", 1).due("count(5)", 6);
        // As much: what he does not count another one does.
        Run.of("c0900;c0900;g0019;").due("idle(1)", 0);
        Run.of("c0900;c0900;g0020;").due("idle(1)", -4);
        Run.of("c0000;c0900;g0019;").due("idle(1)", 0);
        Run.of("c0900;c0000;g0019;").due("idle(1)", 1);
        // Who RESTS already is as he is: that he would take from a STAFF, if he did not, does not matter.
        Run.of("c0000;c5000;g0020;r0;").due("idle(1)", 0);
        Run.of("c5000;c0000;g0020;r0;").due("idle(1)", 0);
        // More: what he counts a STAFF would write twice; the other way it is less.
        Run.of("c0000;c5000;g0020;").due("idle(1)", 0);
        Run.of("c5000;c0000;g0020;").due("idle(1)", 1);
        Run.of("c0090;c0000;c5000;g0020;").due("idle(1)", 1);
        // On the second DAY another one makes up for what he did not count on the first.
        Run.withGrains("c0900;c0900;", 0, 30).due("idle(1)", -4).due("idle(2)", 0);
        Edge.of(21, "IDLE; -4. -1.");
        for (int bad : NO_DAYS_ON) {
            x.due("idle(" + bad + ")", -1);
            new Run().due("idle(" + bad + ")", -1);
        }
    }

    private static void slowest() {
        Edge.ofTerms("SLOWEST: the CORPORAL whose BOOK has grown least behind n DAYS, of several the least; -4.");
        new Run().due("slowest(0)", -4).due("slowest(60)", -4);
        Run x = Run.of("c0100;c0010;c0020;").due("slowest(0)", 0).due("slowest(1)", 1);
        x.does("rests(2)").due("slowest(1)", 2).does("rests(0)").due("slowest(1)", 0).does("rests(0)", "rests(2)", "rests(1)", "days(1)");
        // By what has grown: nothing is in BOOK 1, but from now on it grows most.
        x.does("rests(1)", "keep(0, 1, 0, 9)", "comes(0, 9, 0)").due("corporal(1, 4)", 0).due("slowest(1)", 1);
        x.does("fills(2, 9)").due("slowest(1)", 2);
        Run.of("c0000;c0010;c0020;c0030;c0040;c7050;").due("slowest(1)", 5);
        Run.of("c0000;").due("slowest(60)", 0);
        Edge.of(22, "SLOWEST; -4. -1.");
        for (int bad : NO_DAYS_ON) {
            x.due("slowest(" + bad + ")", -1);
            new Run().due("slowest(" + bad + ")", -1);
        }
    }

    private static void lost() {
        Edge.ofTerms("LOST: how many GRAINS that were DONE at some time have blown on within n DAYS, all together.");
        new Run().due("lost(0)", 0).due("lost(60)", 0);
        Run.of("w9;").due("lost(60)", 0);
        int[][] ofGrains = {{15, 0}, {14, 1}, {11, 4}, {10, 5}};
        for (int[] one : ofGrains) {
            Run.of("c0000;w5;g00" + one[0] + ";").due("lost(0)", 0).due("lost(1)", one[1]);
        }
        Run.withGrains("c0000;w5;r0;", 0, 7).does("rests(0)", "days(1)", "rests(0)").due("dip(0, 1)", 2).due("lost(0)", 0)
            .due("lost(1)", 2).due("lost(2)", 2);
        // Of all DIPS, and nothing of the last one.
        Run.withGrains("c0010;c0030;c0090;w5;", 1, 10, 3, 10, 9, 10).due("lost(1)", 10);
        Run.withGrains("c0081;c0061;c0001;e5;", 8, 10, 6, 10, 0, 10).due("lost(1)", 10);
        // What can not go, since 999 are there, is not lost.
        Run.withGrains("c0080;w5;", 8, 10, 9, 996).due("lost(1)", 3).due("lost(60)", 3);
        // Within n DAYS from now: what blew on ahead of that does not count.
        Run x = Run.withGrains("c0000;w5;", 0, 10).due("lost(1)", 5).does("days(1)").due("lost(0)", 0);
        x.due("lost(1)", 5 + 5).does("image()", "days(5)", "restore()").due("lost(0)", 0);
        Edge.of(23, "LOST. -1.");
        for (int bad : NO_DAYS_ON) {
            x.due("lost(" + bad + ")", -1);
        }
    }

    private static void heap() {
        Edge.ofTerms("HEAP: the DIP with most GRAINS behind n DAYS, of several the least; that.");
        bothDue(new Run(), "heap(0, what)", 0, 100);
        bothDue(Run.withGrains("f;"), "heap(60, what)", 0, 0);
        Run x = Run.of("g9101;");
        bothDue(x, "heap(0, what)", 9, 101);
        x.does("fills(3, 101)");
        bothDue(x, "heap(0, what)", 3, 101);
        x.does("fills(2, 102)");
        bothDue(x, "heap(0, what)", 2, 102);
        x.does("fills(1, 103)");
        bothDue(x, "heap(0, what)", 1, 103);
        x.does("fills(0, 999)", "fills(5, 999)");
        bothDue(x, "heap(0, what)", 0, 999);
        x.does("blows(1)");
        bothDue(x, "heap(1, what)", 5, 999);
        bothDue(Run.of("w9;"), "heap(0, what)", 0, 100);
        bothDue(Run.of("w9;"), "heap(1, what)", 9, 109);
        bothDue(Run.of("w9;"), "heap(60, what)", 9, 640);
        bothDue(Run.of("e9;"), "heap(1, what)", 0, 109);
        Edge.of(24, "HEAP: the DIP (what 0), that (1). -1.");
        for (int bad : NO_DAYS_ON) {
            bothDue(x, "heap(" + bad + ", what)", -1, -1);
        }
        for (int bad : NEITHER_0_NOR_1) {
            x.due("heap(0, " + bad + ")", -1);
        }
    }

    private static void begin() {
        Edge.ofTerms("BEGIN: the WAY (0, 1) and the DIP (10 the WAY and the DIP) for a CORPORAL with which he has most "
            + "in his BOOK behind n DAYS, of several the first (WAYS, then DIPS).");
        Run x = Run.withGrains("c0051;", 8, 10, 9, 10).due("begin(0, 0)", 0).due("begin(0, 1)", 8).due("begin(0, 2)", 8);
        // In DIP 9 one of WAY 1 bars WAY 0; in DIP 8 one of WAY 0 bars WAY 1.
        Run.withGrains("c0000;c0091;r1;", 8, 10, 9, 10).due("begin(0, 2)", 19);
        Run.withGrains("c0000;c0080;r1;", 8, 10, 9, 10).due("begin(0, 2)", 8);
        Run.withGrains("c0001;c0011;r1;", 0, 10, 1, 10).due("begin(0, 2)", 11);
        Run.withGrains("c0001;", 0, 10).due("begin(0, 60)", 0);
        Run.withGrains("c0001;", 0, 10, 1, 10, 2, 5).due("begin(0, 2)", 0).due("begin(0, 3)", 0);
        Run.withGrains("c0091;", 9, 10, 7, 20).due("begin(0, 2)", 7).due("begin(0, 4)", 7);
        Run.withGrains("c0091;", 9, 10, 8, 9, 0, 9).due("begin(0, 1)", 9);
        Run.withGrains("c0000;r0;", 9, 10).due("begin(0, 60)", 0);
        // His BOOK alone, whatever the others have; he has what was in it.
        Run.withGrains("c0050;c5030;", 3, 100, 6, 11).due("begin(0, 1)", 3).due("begin(1, 1)", 3);
        x.due("corporal(0, 2)", 5).due("corporal(0, 3)", 1);
        Edge.of(25, "BEGIN. -1.");
        x = Run.of("c0000;c0000;");
        for (int bad : NO_CORPORAL_OF_2) {
            x.due("begin(" + bad + ", 1)", -1);
        }
        for (int bad : NO_DAYS_ON) {
            x.due("begin(0, " + bad + ")", -1);
        }
        new Run().due("begin(0, 0)", -1);
    }

    private static void pairs() {
        Edge.ofTerms("PAIRS: the most twos of CORPORALS, nobody in more than one, each of one WAY 0 and one of WAY 1, "
            + "that are 3 DIPS or less apart.");
        Edge.of(26, "PAIRS.");
        String[] texts = {"f;", "c0050;", "c0050;c0050;", "c0051;c0051;", "c0050;c0051;", "c0050;c0081;", "c0050;c0091;",
            "c0050;c0021;", "c0050;c0011;", "c0060;c0091;", "c0030;c0001;", "c0000;c0091;",
            "c0050;c0051;c0051;", "c0050;c0050;c0051;", "c0050;c0051;c0050;c0051;c0050;c0051;", "c0050;c0050;c0050;c0050;c0051;c0051;",
            "c0030;c0000;c0031;c0061;", "c0030;c0060;c0031;c0001;", "c0060;c0030;c0031;c0001;", "c0031;c0061;c0060;c0090;",
            "c0000;c0030;c0060;c0031;c0061;c0091;", "c0000;c0031;c0060;c0091;r0;r1;r2;r3;", "c0000;c0041;c0080;c0041;"};
        int[] due = {0, 0, 0, 0, 1, 1, 0, 1, 0, 1, 1, 0, 1, 1, 3, 2, 2, 2, 2, 2, 3, 2, 0};
        Check.due("as many as texts", texts.length, due.length);
        for (int i = 0; i < texts.length; i++) {
            Check.due("pairs() of " + texts[i], String.valueOf(due[i]), Run.of(texts[i]).answer("pairs()"));
        }
        // Where they are now, whoever of them RESTS.
        Run x = new Run().does("keep(0, 1, 0, 0)", "comes(0, 5, 0)").due("pairs()", 0).does("comes(0, 9, 1)").due("pairs()", 0);
        x.does("moves(1, 8)").due("pairs()", 1).does("moves(0, 4)").due("pairs()", 0).does("moves(1, 1)").due("pairs()", 1);
        for (String first : new String[] {"1", "4"}) {
            String second = first.equals("1") ? "4" : "1";
            new Run().does("keep(0, 1, 0, 0)", "comes(0, 4, 0)", "comes(0, 7, 0)", "comes(0, " + first + ", 1)",
                "comes(0, " + second + ", 1)").due("pairs()", 2);
        }
        x.does("rests(0)").due("pairs()", 1).does("comes(0, 1, 1)").due("pairs()", 1).does("comes(0, 1, 0)").due("pairs()", 2);
    }

    private static void even() {
        Edge.ofTerms("EVEN: the DIP (0 .. 8) behind which to draw the line so that GRAINS up to it and behind it are nearest to alike, "
            + "of several the least; by how much they are not.");
        bothDue(new Run(), "even(what)", 4, 0);
        bothDue(Run.withGrains("f;"), "even(what)", 0, 0);
        bothDue(Run.withGrains("f;", 9, 999), "even(what)", 0, 999);
        bothDue(Run.withGrains("f;", 0, 999), "even(what)", 0, 999);
        bothDue(Run.withGrains("f;", 8, 999, 9, 999), "even(what)", 8, 0);
        bothDue(Run.withGrains("f;", 0, 999, 1, 999), "even(what)", 0, 0);
        bothDue(Run.withGrains("f;", 4, 7, 5, 1, 6, 7), "even(what)", 4, 1);
        bothDue(Run.withGrains("f;", 4, 7, 5, 1, 6, 6), "even(what)", 4, 0);
        bothDue(Run.withGrains("f;", 4, 6, 5, 1, 6, 7), "even(what)", 5, 0);
        bothDue(Run.withGrains("f;", 4, 10, 6, 10), "even(what)", 4, 0);
        Run full = new Run();
        for (int dip = 0; dip < 10; dip++) {
            full.does("fills(" + dip + ", 999)");
        }
        bothDue(full, "even(what)", 4, 0);
        Edge.of(27, "EVEN: the DIP (what 0), by how much (1). -1.");
        for (int bad : NEITHER_0_NOR_1) {
            full.due("even(" + bad + ")", -1);
        }
    }
}
