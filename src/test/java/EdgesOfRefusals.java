/** What all refusals have in common: nothing changes, which one is told first, how it is told. */
final class EdgesOfRefusals {
    /** Shelf 0 holds nothing, 1 a STAFF, 2 to 4 rows of each sort, 5 and 6 texts with a fault, 7 an empty row. */
    private static final String[] SHELVES = {"keep(1, 1, 5, 5)", "row(2, 0, 2)", "put(2, 0, 102)", "put(2, 1, 59)", "row(3, 1, 3)",
        "put(3, 2, 500)", "row(4, 2, 1)", "put(4, 0, -7)", "row(5, 0, 5)", "put(5, 0, 102)", "put(5, 1, 59)", "put(5, 2, 114)",
        "put(5, 3, 57)", "put(5, 4, 59)", "row(6, 0, 3)", "put(6, 0, 102)", "put(6, 1, 59)", "put(6, 2, 99)", "row(7, 0, 0)"};
    private static final String DESERT = "c2300;c5491;c6550;w3;d05;r1;g4007;";

    private EdgesOfRefusals() {
    }

    static void all() {
        nothingChanges();
        nothingChangesWithoutRoom();
        nothingChangesOnTheLastDay();
        lookingChangesNothing();
        theFirstAsTold();
        whichAreToldHigh();
        soOnWithoutAny();
    }

    private static Run full() {
        return Run.of(DESERT).does("image()", "days(1)", "fills(7, 70)", "blows(-4)").does(SHELVES);
    }

    private static Run crowded() {
        return full().write(0, "c0000;c4120;c7991;").does("desert(0)", "keep(0, 0, 0, 0)");
    }

    private static Run late() {
        Run x = full();
        for (int i = 0; i < 16; i++) {
            x.does("days(60)");
        }
        return x.does("days(33)");
    }

    /** All that there is, and all that there is when the image has come back. */
    private static String allAndTheImage(Run x) {
        return x.all() + " image " + x.answer("restore()") + " " + x.all();
    }

    private static void refusedDue(Run x, String before, String call, String want) {
        x.due(call, want);
        Check.due("all behind the refused " + call, before, allAndTheImage(x));
    }

    private static void nothingChanges() {
        Edge.ofTerms("REFUSALS (answers; nothing changes): -1 no such one, one twice, a number out of its range; -2 there is no room; "
            + "-3 it is not as it must be; -4 none.");
        String[][] refused = {
            {"-1", "desert(-1)", "desert(8)", "corporal(3, 0)", "corporal(-1, 0)", "corporal(0, 7)", "corporal(0, -1)", "dip(10, 0)",
                "dip(-1, 0)", "dip(0, 3)", "dip(0, -1)", "comes(8, 0, 0)", "comes(-1, 0, 0)", "comes(1, 10, 0)", "comes(1, -1, 0)",
                "comes(1, 0, 2)", "comes(1, 0, -1)", "fills(10, 5)", "fills(-1, 5)", "fills(0, 1000)", "fills(0, -1)", "rests(3)",
                "rests(-1)", "moves(3, 0)", "moves(-1, 0)", "moves(0, 10)", "moves(0, -1)", "days(0)", "days(-1)", "days(61)",
                "corporalThen(3, 1, 0)", "corporalThen(0, 61, 0)", "corporalThen(0, 1, 2)", "dipThen(10, 1, 0)", "dipThen(0, 61, 0)",
                "dipThen(0, 1, 2)", "dipsDone(61)", "dipsDone(-1)", "ends(10)", "ends(-2)", "meet(0, 0)", "meet(0, 3)", "meet(-1, 0)",
                "line(61)", "line(-1)", "send(3, 1, 0)", "send(0, 61, 0)", "send(0, 1, 2)", "idle(61)", "idle(-1)", "slowest(61)",
                "slowest(-1)", "lost(61)", "lost(-1)", "heap(61, 0)", "heap(1, 2)", "begin(3, 1)", "begin(0, 61)", "even(2)", "even(-1)",
                "howMany(8, 0, 0)", "howMany(2, 10, 0)", "howMany(2, 0, 3)", "whatIs(8, 0, 0)", "whatIs(2, 3, 0)", "whatIs(2, 0, 2)",
                "two(0, 0)", "two(0, 3)", "two(-1, 0)", "forged(8)", "forged(-1)", "judge(8)", "judge(-1)", "deserts(0, 1, 0)",
                "deserts(21, 1, 0)", "deserts(1, 1, 2)", "count(7)", "count(-1)", "keep(8, 0, 0, 0)", "keep(-1, 1, 0, 0)",
                "keep(1, 2, 0, 0)", "keep(1, -1, 0, 0)", "keep(1, 1, 8, 0)", "keep(1, 1, -1, 0)", "keep(3, 1, 0, 10)", "keep(3, 1, 0, -1)",
                "row(8, 0, 1)", "row(-1, 0, 1)", "row(1, 3, 1)", "row(1, -1, 1)", "row(3, 0, 101)", "put(8, 0, 1)", "put(-1, 0, 1)",
                "copy(8, 0, 3, 0, 1)", "copy(3, 0, -1, 0, 1)", "cost(8)", "cost(-1)", "toss(8)", "toss(-1)"},
            {"-11", "desert(0)", "comes(0, 0, 0)", "howMany(0, 0, 0)", "whatIs(0, 0, 0)", "forged(0)", "judge(0)", "put(0, 0, 1)",
                "copy(0, 0, 3, 0, 1)", "copy(3, 0, 0, 0, 1)", "cost(0)", "toss(0)"},
            {"-12", "desert(1)", "desert(3)", "desert(4)", "comes(2, 0, 0)", "comes(3, 0, 0)", "howMany(1, 0, 0)", "whatIs(1, 0, 0)",
                "forged(1)", "judge(1)", "put(1, 0, 1)", "copy(1, 0, 3, 0, 1)", "copy(3, 0, 1, 0, 1)", "copy(2, 0, 3, 0, 1)",
                "copy(3, 0, 4, 0, 1)", "cost(2)", "toss(3)"},
            {"-13", "put(3, 3, 1)", "put(3, -1, 1)", "put(7, 0, 1)", "copy(3, 0, 3, 1, 3)", "copy(3, 1, 3, 0, 3)", "copy(3, 0, 3, 1, -1)"},
            {"-14", "row(3, 0, -1)", "row(1, 0, -1)"},
            {"1000000001", "blows(10)", "blows(-10)", "treaty(61)", "treaty(-1)", "bestWind(61, 0)", "bestWind(1, 2)", "storm(10, 1, 2, 0)",
                "storm(0, 8, 2, 0)", "storm(0, 1, 1, 0)", "storm(0, 1, 21, 0)", "storm(0, 1, 2, 2)", "mean(2)", "mean(-1)"},
            {"IllegalArgumentException", "element(8, 0)", "element(-1, 0)"},
            {"IllegalStateException", "element(0, 0)", "element(1, 0)", "element(3, 3)", "element(3, -1)"},
            {"-2002", "desert(5)"}, {"-1003", "desert(6)"}, {"-1000", "desert(7)"}};
        String before = allAndTheImage(full());
        for (String[] calls : refused) {
            for (int i = 1; i < calls.length; i++) {
                refusedDue(full(), before, calls[i], calls[0]);
            }
        }
        noneThereIs(before);
    }

    private static void noneThereIs(String before) {
        refusedDue(full(), before, "ends(-1)", "-4");
        refusedDue(full().does("keep(0, 1, 6, 3)"), allAndTheImage(full().does("keep(0, 1, 6, 3)")), "toss(0)", "-15");
        // Without THE IMAGE restore() has nothing to bring back.
        Run x = Run.of(DESERT).does(SHELVES).due("restore()", -3);
        Check.due("all behind the refused restore()", Run.of(DESERT).does(SHELVES).all(), x.all());
    }

    private static void nothingChangesWithoutRoom() {
        Edge.ofTerms("-2 there is no room;");
        String before = allAndTheImage(crowded());
        refusedDue(crowded(), before, "comes(1, 0, 0)", "-2");
        refusedDue(crowded(), before, "comes(1, 9, 1)", "-2");
    }

    private static void nothingChangesOnTheLastDay() {
        Edge.ofTerms("-3 it is not as it must be;");
        String before = allAndTheImage(late());
        refusedDue(late(), before, "days(1)", "-3");
        refusedDue(late(), before, "days(60)", "-3");
        refusedDue(late(), before, "days(61)", "-1");
    }

    private static void lookingChangesNothing() {
        Edge.ofTerms("In mind, n DAYS on");
        String[] calls = {"corporal(0, 6)", "dip(0, 2)", "corporalThen(0, 60, 1)", "dipThen(0, 60, 1)", "dipsDone(60)", "ends(0)",
            "ends(-1)", "meet(0, 2)", "line(60)", "treaty(60)", "bestWind(60, 1)", "send(0, 60, 1)", "idle(60)", "slowest(60)", "lost(60)",
            "heap(60, 1)", "begin(0, 60)", "pairs()", "even(1)", "howMany(3, 0, 0)", "whatIs(3, 0, 0)", "whatIs(3, 0, 1)", "two(0, 1)",
            "storm(0, 7, 2, 0)", "mean(0)", "forged(3)", "judge(3)", "deserts(20, 7, 1)", "count(4)", "element(3, 2)", "cost(1)", "toss(1)",
            "keep(0, 0, 0, 0)", "copy(3, 0, 3, 0, 3)", "copy(3, 0, 3, 0, 0)"};
        String before = allAndTheImage(full());
        for (String call : calls) {
            Run x = full();
            String answer = x.answer(call);
            Check.due("all behind " + call + ", which answered " + answer, before, allAndTheImage(x));
        }
    }

    private static void theFirstAsTold() {
        Edge.ofTerms("Answers of several REFUSALS are the first one as they are told at the call.");
        String[][] several = {
            // -1 ahead of -11, -12 and -2, each of which is so, too.
            {"-1", "comes(0, 10, 0)", "comes(0, -1, 0)", "comes(0, 0, 2)", "comes(0, 0, -1)", "comes(2, 10, 0)", "comes(3, 0, 2)",
                "comes(1, 10, 0)", "comes(1, 0, 2)", "comes(8, 0, 0)", "comes(8, 10, 2)", "howMany(0, 10, 0)", "howMany(0, 0, 3)",
                "howMany(1, -1, 0)", "howMany(1, 0, -1)", "howMany(8, 10, 3)", "whatIs(0, 6, 0)", "whatIs(0, 0, 2)", "whatIs(1, -1, 0)",
                "whatIs(1, 0, -1)", "whatIs(8, 6, 2)", "row(8, 0, -1)", "row(-1, 3, -1)", "row(0, 3, -1)", "row(1, -1, -1)", "put(8, -1, 0)",
                "put(-1, 100, 0)", "copy(8, 0, 0, 0, -1)", "copy(0, 0, 8, 0, -1)", "copy(8, 0, 1, 0, -1)", "copy(1, 0, -1, 0, -1)",
                "copy(8, 9, 3, 9, 9)", "copy(3, 9, -1, 9, 9)", "days(61)", "days(0)", "moves(6, 10)", "keep(8, 2, 8, 10)"},
            // -11 ahead of -12, -2 and -13.
            {"-11", "comes(0, 0, 0)", "comes(0, 9, 1)", "put(0, -1, 0)", "put(0, 100, 0)", "copy(0, 0, 1, 0, 1)", "copy(1, 0, 0, 0, 1)",
                "copy(0, 0, 0, 0, -1)", "copy(0, 9, 3, 9, 9)", "copy(3, 9, 0, 9, 9)", "copy(0, 0, 1, 0, -1)", "copy(1, 0, 0, 0, -1)",
                "copy(3, 0, 0, 0, -1)"},
            // -12 ahead of -2, -13 and what stands in the text.
            {"-12", "comes(2, 0, 0)", "comes(7, 0, 0)", "put(1, -1, 0)", "put(1, 100, 0)", "copy(2, 0, 3, 0, -1)", "copy(2, 9, 3, 9, 9)",
                "copy(3, 9, 4, 0, 1)", "copy(1, 0, 1, 0, -1)", "copy(1, 0, 3, 9, 1)", "copy(3, 0, 1, 9, 1)", "desert(3)", "desert(4)",
                "toss(3)"},
            {"IllegalArgumentException", "element(8, -1)", "element(-1, 100)"}};
        for (String[] calls : several) {
            for (int i = 1; i < calls.length; i++) {
                crowded().due(calls[i], calls[0]);
            }
        }
        late().due("days(61)", -1).due("days(0)", -1).due("days(60)", -3).due("days(1)", -3);
        // A FAULT of kind 1 ahead of one of kind 2, wherever it is.
        crowded().write(0, "c0000;x").due("desert(0)", -1006).write(0, "c0000;").due("desert(0)", -2000);
    }

    private static void whichAreToldHigh() {
        Edge.ofTerms("Of treaty(), of winds and of longs they are 1000000000 less them (-1 is told as 1000000001).");
        int[] bad = {-1, Integer.MIN_VALUE, Integer.MAX_VALUE};
        Run x = full();
        for (int v : bad) {
            x.due("treaty(" + v + ")", 1000000001).due("bestWind(" + v + ", 0)", 1000000001).due("bestWind(0, " + v + ")", 1000000001);
            x.due("storm(" + v + ", 0, 2, 0)", 1000000001).due("storm(0, " + v + ", 2, 0)", 1000000001);
            x.due("storm(0, 0, " + v + ", 0)", 1000000001).due("storm(0, 0, 2, " + v + ")", 1000000001);
            x.due("mean(" + v + ")", 1000000001);
        }
        x.due("blows(10)", 1000000001).due("blows(-10)", 1000000001).due("count(6)", 5);
        // What is no refusal is told as it is, below 0, too.
        x.due("blows(-1)", -4).due("blows(0)", -1).due("blows(0)", 0);
        Run.of("c0001;").due("treaty(1)", -10).due("treaty(0)", 0);
        Run.of("c0000;").due("bestWind(0, 0)", -9);
    }

    private static void soOnWithoutAny() {
        Edge.ofTerms("-4 none.");
        Run x = new Run().due("idle(0)", -4).due("slowest(0)", -4).due("ends(-1)", -4).due("ends(0)", -4);
        x.does("row(0, 0, 0)").due("forged(0)", -4).due("judge(0)", -4).does("row(0, 0, 1)", "put(0, 0, 1)");
        x.due("howMany(0, 0, 1)", -4).due("howMany(0, 0, 2)", -4).due("howMany(0, 0, 0)", 0);
        Run.of("c0000;c0090;r0;").due("meet(0, 1)", -4);
        Run.of("c2030;c0240;g3005;g4107;").due("two(0, 1)", -4);
    }
}
