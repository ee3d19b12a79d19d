/** Promises 1 to 11: the desert as told. */
public final class DesertAsToldTest {
    private static final int[] OUT_OF_RANGE = {-1, Integer.MIN_VALUE, Integer.MAX_VALUE};

    public static void main(String[] args) {
        aNewObject();
        textsThatCome();
        faultsOfForm();
        faultsOfStatements();
        nothingComesWithAFault();
        refusalsOfDesert();
        corporals();
        whatEachKindCounts();
        dips();
        comes();
        fills();
        blows();
        rests();
        moves();
        flood();
        daysAndWhatEachKindBooks();
        whenTheyGoOn();
        whatTheWindCarries();
        booksAndDaysHaveAnEnd();
        Check.end();
    }

    private static void aNewObject() {
        Check.promise(1, "a new object");
        DesertIsCounted x = new DesertIsCounted();
        for (int dip = 0; dip < 10; dip++) {
            Check.due("dip(" + dip + ", 0)", 100, x.dip(dip, 0));
            Check.due("dip(" + dip + ", 1)", 0, x.dip(dip, 1));
            Check.due("dip(" + dip + ", 2)", 0, x.dip(dip, 2));
        }
        int[] counts = {0, 0, 1000, 0, 0, 0, 9};
        for (int what = 0; what < counts.length; what++) {
            Check.due("count(" + what + ")", counts[what], x.count(what));
        }
        Check.due("corporal(0, 0)", -1, x.corporal(0, 0));
        for (int d = 0; d < 8; d++) {
            Check.due("cost(" + d + ")", -11, x.cost(d));
        }
        Check.due("restore()", -3, x.restore());
    }

    private static int answer(DesertIsCounted x, String text) {
        Check.write(x, 0, text);
        return x.desert(0);
    }

    private static void textsThatCome() {
        Check.promise(2, "desert");
        DesertIsCounted x = new DesertIsCounted();
        Check.due("c", 2, answer(x, "c5371;c0490;"));
        int[] figures = {5, 3, 7, 1, 0, 0};
        for (int what = 0; what < figures.length; what++) {
            Check.due("corporal(0, " + what + ")", figures[what], x.corporal(0, what));
        }
        Check.due("corporal(1, 2)", 9, x.corporal(1, 2));
        Check.due("corporal(1, 3)", 0, x.corporal(1, 3));
        Check.due("w", 1, answer(x, "w9;"));
        Check.due("WIND and 9", 18, x.count(6));
        Check.due("e", 1, answer(x, "e9;"));
        Check.due("WIND and 9", 0, x.count(6));
        Check.due("e0", 1, answer(x, "e0;"));
        Check.due("WIND and 9", 9, x.count(6));
        Check.due("r", 1, answer(x, "r1;"));
        Check.due("who RESTS", 2, x.count(5));
        Check.due("r twice", 3, answer(x, "r1;r0;r1;"));
        Check.due("who RESTS", 3, x.count(5));
        Check.due("r0", 1, answer(x, "r0;"));
        Check.due("d01", 1, answer(x, "d01;"));
        Check.due("DONE of dip 7 by a STAFF", 50, x.dip(7, 1));
        Check.due("DONE of dip 9 by a RESTING one", 0, x.dip(9, 1));
        Check.due("g", 1, answer(x, "g7060;"));
        Check.due("GRAINS of dip 7", 60, x.dip(7, 0));
        Check.due("DONE of dip 7", 0, x.dip(7, 1));
        Check.due("g with no GRAINS and with most", 2, answer(x, "g0000;g9999;"));
        Check.due("GRAINS of dips 0 and 9", 999, x.dip(0, 0) + x.dip(9, 0));
        Check.due("d60", 1, answer(x, "d60;"));
        Check.due("DAY", 61, x.count(1));
        Check.due("f", 1, answer(x, "f;"));
        Check.due("all DONE", 0, x.count(3));
        Check.due("all BOOKS", 0, x.count(4));
        Check.due("fifty STATEMENTS", 50, answer(x, "f;".repeat(50)));
        Check.due("the ROW stays", "102", Check.elementOf(x, 0, 98));
        Check.due("DAY 999", 17, answer(new DesertIsCounted(), "d60;".repeat(16) + "d39;"));
    }

    private static void faultsOfForm() {
        Check.promise(2, "desert, kind 1");
        DesertIsCounted x = new DesertIsCounted();
        String[] texts = {"", "x", ";", " f;", "F;", "f", "f;;", "f;f", "fx", "c", "c000", "c0000", "c00000;", "c000x;", "c;",
            "g", "g12", "g12;", "g1234", "g12345;", "w", "w;", "w-1;", "w12;", "e", "ex;", "r", "r;", "r;;", "d", "d1;", "d1",
            "d100;", "d+1;", "f0;", "f; f;", "r0;x", "c8000;c", "d00;d", "/", "c/000;", "c:000;", "0;"};
        int[] places = {0, 0, 0, 0, 0, 1, 2, 3, 1, 1, 4, 5, 5, 4, 1,
            1, 3, 3, 5, 5, 1, 1, 1, 2, 1, 1, 1, 1, 1, 1, 2, 2,
            3, 1, 1, 2, 3, 7, 5, 0, 1, 1, 0};
        Check.due("as many places as texts", texts.length, places.length);
        for (int i = 0; i < texts.length; i++) {
            Check.due("\"" + texts[i] + "\"", -1000 - places[i], answer(x, texts[i]));
            x = new DesertIsCounted();
        }
        Check.due("the end of the longest ROW", -1100, answer(x, "f;".repeat(48) + "c000"));
        Check.tell(x, 0, 0, 'f', -1);
        Check.due("a byte below 0", -1001, x.desert(0));
        Check.tell(x, 0, 0, 'f', ';', 'f' + 128, ';');
        Check.due("a letter with its highest bit", -1002, x.desert(0));
    }

    private static void faultsOfStatements() {
        Check.promise(2, "desert, kind 2");
        String[] texts = {"c8000;", "c9000;", "c0002;", "c0009;", "r0;", "f;r0;", "c0000;r1;", "r0;c0000;", "d00;", "d61;",
            "d99;", "w1;e1;d00;", "c8000;d00;", "f;d61;r5;", "c0000;".repeat(6) + "r6;", "c0000;".repeat(7)};
        int[] places = {0, 0, 0, 0, 0, 2, 6, 0, 0, 0,
            0, 6, 0, 2, 36, 36};
        Check.due("as many places as texts", texts.length, places.length);
        for (int i = 0; i < texts.length; i++) {
            Check.due("\"" + texts[i] + "\"", -2000 - places[i], answer(new DesertIsCounted(), texts[i]));
        }
        Check.due("DAY 1000 in one text", -2064, answer(new DesertIsCounted(), "d60;".repeat(16) + "d40;"));
        DesertIsCounted x = Check.of("d60;".repeat(16));
        Check.due("DAY 1000 behind another text", -2000, answer(x, "d40;"));
        Check.due("DAY stays", 960, x.count(1));
        Check.due("DAY 999", 1, answer(x, "d39;"));
        Check.due("DAY 1000 in one DAY", -2000, answer(x, "d01;"));
        Check.due("each kind, figure, dip and way there is", 6, answer(x, "c0000;c1910;c2121;c3230;c6581;c7991;"));
        Check.due("no room", -2000, answer(x, "c0000;"));
        Check.due("the last one RESTS", 1, answer(x, "r5;"));
    }

    private static void nothingComesWithAFault() {
        Check.promise(2, "desert, nothing comes with a FAULT");
        DesertIsCounted x = Check.of("c0500;c2391;w3;d05;r1;");
        String before = Check.all(x);
        Check.due("kind 1", -1020, answer(x, "c4000;g0007;e9;d10;f"));
        x.keep(0, 0, 0, 0);
        Check.due("kind 2", -2027, answer(x, "c4000;g0007;e9;d10;r0;f;r0;r3;"));
        x.keep(0, 0, 0, 0);
        Check.due("all", before, Check.all(x));
    }

    private static void refusalsOfDesert() {
        Check.promise(2, "desert, refusals");
        DesertIsCounted x = new DesertIsCounted();
        for (int d : OUT_OF_RANGE) {
            Check.due("desert(" + d + ")", -1, x.desert(d));
        }
        Check.due("desert(8)", -1, x.desert(8));
        Check.due("nothing held", -11, x.desert(7));
        x.keep(7, 1, 0, 0);
        Check.due("a CORPORAL held", -12, x.desert(7));
        Check.tell(x, 7, 1, 'f', ';');
        Check.due("shorts held", -12, x.desert(7));
        Check.tell(x, 7, 2, 'f', ';');
        Check.due("ints held", -12, x.desert(7));
        Check.tell(x, 7, 0, 'f', ';');
        Check.due("bytes held", 1, x.desert(7));
    }

    private static void corporals() {
        Check.promise(3, "corporal");
        DesertIsCounted x = Check.of("c4780;c0021;r1;");
        int[] first = {4, 7, 8, 0, 0, 0, 9};
        int[] second = {0, 0, 2, 1, 0, 1, 10};
        for (int what = 0; what <= 6; what++) {
            Check.due("corporal(0, " + what + ")", first[what], x.corporal(0, what));
            Check.due("corporal(1, " + what + ")", second[what], x.corporal(1, what));
        }
        x.days(2);
        Check.due("BOOK of the first", 18, x.corporal(0, 4));
        Check.due("BOOK of who RESTS", 0, x.corporal(1, 4));
        for (int c : OUT_OF_RANGE) {
            Check.due("corporal(" + c + ", 0)", -1, x.corporal(c, 0));
            Check.due("corporal(0, " + c + ")", -1, x.corporal(0, c));
        }
        Check.due("corporal(2, 0)", -1, x.corporal(2, 0));
        Check.due("corporal(6, 0)", -1, x.corporal(6, 0));
        Check.due("corporal(0, 7)", -1, x.corporal(0, 7));
    }

    private static void whatEachKindCounts() {
        Check.promise(3, "corporal, what he would COUNT");
        // By kinds: FIGURE 9 and 0 among 100, FIGURE 9 among 25, 7, 1, 0; on an odd DAY.
        int[][] odd = {
            {19, 10, 19, 7, 1, 0}, {18, 9, 18, 7, 1, 0}, {50, 50, 13, 4, 1, 0}, {9, 5, 9, 7, 1, 0},
            {10, 5, 10, 7, 1, 0}, {50, 50, 20, 7, 1, 0}, {0, 0, 0, 0, 0, 0}, {10, 1, 10, 7, 1, 0}};
        for (int kind = 0; kind < 8; kind++) {
            DesertIsCounted x = Check.of("c" + kind + "930;c" + kind + "030;");
            int[] grains = {100, 100, 25, 7, 1, 0};
            for (int i = 0; i < grains.length; i++) {
                x.fills(3, grains[i]);
                Check.due("kind " + kind + " among " + grains[i], odd[kind][i], x.corporal(i == 1 ? 1 : 0, 6));
            }
        }
        DesertIsCounted x = Check.of("c6930;c6031;c6430;d01;");
        Check.due("SLEEPER on an even DAY to come", 9, x.corporal(0, 6));
        Check.due("SLEEPER with FIGURE 0", 5, x.corporal(1, 6));
        Check.due("SLEEPER with FIGURE 4", 7, x.corporal(2, 6));
        x.fills(3, 3);
        Check.due("SLEEPER among 3", 3, x.corporal(0, 6));
        x.days(1);
        Check.due("SLEEPER on an odd DAY to come", 0, x.corporal(0, 6));
        DesertIsCounted last = Check.of("d60;".repeat(16) + "d39;", "c6550;");
        Check.due("SLEEPER on the DAY behind the last", 7, last.corporal(0, 6));
        DesertIsCounted half = Check.of("c0040;g4099;d03;c2000;g0099;");
        half.moves(1, 4);
        Check.due("GUESSER by what is not DONE", 35, half.corporal(1, 6));
    }

    private static void dips() {
        Check.promise(4, "dip");
        DesertIsCounted x = Check.of("g4250;c0540;c1241;c0590;d02;");
        Check.due("dip(4, 0)", 250, x.dip(4, 0));
        Check.due("dip(4, 1)", 52, x.dip(4, 1));
        Check.due("dip(4, 2)", 3, x.dip(4, 2));
        Check.due("dip(9, 2)", 4, x.dip(9, 2));
        Check.due("dip(0, 2)", 0, x.dip(0, 2));
        for (int dip : OUT_OF_RANGE) {
            Check.due("dip(" + dip + ", 0)", -1, x.dip(dip, 0));
            Check.due("dip(0, " + dip + ")", -1, x.dip(0, dip));
        }
        Check.due("dip(10, 0)", -1, x.dip(10, 0));
        Check.due("dip(0, 3)", -1, x.dip(0, 3));
    }

    private static void comes() {
        Check.promise(5, "comes");
        DesertIsCounted x = new DesertIsCounted();
        x.keep(2, 1, 3, 8);
        Check.due("comes(2, 9, 1)", 0, x.comes(2, 9, 1));
        int[] first = {3, 8, 9, 1, 0, 0};
        for (int what = 0; what < first.length; what++) {
            Check.due("corporal(0, " + what + ")", first[what], x.corporal(0, what));
        }
        Check.due("the one on the SHELF stays", 3, x.cost(2));
        for (int c = 1; c < 6; c++) {
            Check.due("comes(2, 0, 0)", c, x.comes(2, 0, 0));
        }
        Check.due("no room", -2, x.comes(2, 0, 0));
        Check.due("a ROW ahead of no room", -12, comesFromRow(x));
        Check.due("nothing ahead of no room", -11, x.comes(4, 0, 0));
        Check.due("a bad dip ahead of nothing", -1, x.comes(4, 10, 0));
        Check.due("a bad dip below 0", -1, x.comes(2, -1, 0));
        Check.due("a bad way ahead of nothing", -1, x.comes(4, 0, 2));
        Check.due("a bad way below 0", -1, x.comes(2, 0, -1));
        Check.due("no such SHELF", -1, x.comes(8, 0, 0));
        Check.due("no such SHELF below 0", -1, x.comes(-1, 0, 0));
        Check.due("a bad way ahead of a ROW", -1, x.comes(3, 0, 2));
        Check.due("count(0)", 6, x.count(0));
    }

    private static int comesFromRow(DesertIsCounted x) {
        x.row(3, 0, 1);
        return x.comes(3, 0, 0);
    }

    private static void fills() {
        Check.promise(6, "fills");
        DesertIsCounted x = Check.of("c0000;d03;");
        Check.due("DONE ahead", 30, x.dip(0, 1));
        Check.due("fills(0, 999)", 100, x.fills(0, 999));
        Check.due("GRAINS", 999, x.dip(0, 0));
        Check.due("DONE", 0, x.dip(0, 1));
        Check.due("BOOK stays", 30, x.count(4));
        Check.due("fills(0, 0)", 999, x.fills(0, 0));
        Check.due("fills(0, 5)", 0, x.fills(0, 5));
        for (int bad : OUT_OF_RANGE) {
            Check.due("fills(" + bad + ", 1)", -1, x.fills(bad, 1));
            Check.due("fills(0, " + bad + ")", -1, x.fills(0, bad));
        }
        Check.due("fills(10, 1)", -1, x.fills(10, 1));
        Check.due("fills(0, 1000)", -1, x.fills(0, 1000));
        Check.due("GRAINS", 5, x.dip(0, 0));
    }

    private static void blows() {
        Check.promise(7, "blows");
        DesertIsCounted x = new DesertIsCounted();
        Check.due("blows(9)", 0, x.blows(9));
        Check.due("blows(-9)", 9, x.blows(-9));
        Check.due("blows(-1)", -9, x.blows(-1));
        Check.due("blows(-1) again", -1, x.blows(-1));
        for (int bad : new int[] {10, -10, Integer.MIN_VALUE, Integer.MAX_VALUE}) {
            Check.due("blows(" + bad + ")", 1000000001, x.blows(bad));
        }
        Check.due("WIND and 9", 8, x.count(6));
    }

    private static void rests() {
        Check.promise(8, "rests");
        DesertIsCounted x = Check.of("c0000;c0050;");
        Check.due("rests(1)", 1, x.rests(1));
        Check.due("who RESTS", 2, x.count(5));
        Check.due("days(1)", 10, x.days(1));
        Check.due("rests(1) again", 0, x.rests(1));
        Check.due("who RESTS", 0, x.count(5));
        Check.due("days(1)", 30, x.days(1));
        for (int bad : OUT_OF_RANGE) {
            Check.due("rests(" + bad + ")", -1, x.rests(bad));
        }
        Check.due("rests(2)", -1, x.rests(2));
        Check.due("who RESTS", 0, x.count(5));
    }

    private static void moves() {
        Check.promise(9, "moves");
        DesertIsCounted x = Check.of("c0030;c0081;");
        Check.due("moves(0, 9)", 3, x.moves(0, 9));
        Check.due("moves(0, 8), where one of the other WAY stands", 9, x.moves(0, 8));
        Check.due("AT", 8, x.corporal(0, 2));
        Check.due("WAY stays", 0, x.corporal(0, 3));
        Check.due("moves(0, 8) again", 8, x.moves(0, 8));
        for (int bad : OUT_OF_RANGE) {
            Check.due("moves(" + bad + ", 0)", -1, x.moves(bad, 0));
            Check.due("moves(0, " + bad + ")", -1, x.moves(0, bad));
        }
        Check.due("moves(2, 0)", -1, x.moves(2, 0));
        Check.due("moves(0, 10)", -1, x.moves(0, 10));
        Check.due("AT", 8, x.corporal(0, 2));
    }

    private static void flood() {
        Check.promise(10, "flood");
        DesertIsCounted x = Check.of("c0000;c2951;w2;");
        x.days(1);
        Check.due("flood()", 69, x.flood());
        Check.due("all DONE", 0, x.count(3));
        Check.due("all BOOKS", 0, x.count(4));
        Check.due("all GRAINS", 1000, x.count(2));
        Check.due("GRAINS of dip 0 stay as the WIND left them", 98, x.dip(0, 0));
        Check.due("DAY stays", 1, x.count(1));
        Check.due("WIND stays", 11, x.count(6));
        Check.due("flood() again", 0, x.flood());
    }

    private static void daysAndWhatEachKindBooks() {
        Check.promise(11, "days");
        // By kinds with FIGURE 9 in a dip with 100: DONE and BOOK behind 1 and behind 2 DAYS.
        int[][] due = {
            {19, 19, 38, 38}, {18, 18, 36, 36}, {50, 59, 75, 93}, {9, 9, 18, 18},
            {10, 10, 20, 20}, {50, 100, 75, 150}, {0, 0, 9, 8}, {10, 10, 20, 20}};
        for (int kind = 0; kind < 8; kind++) {
            DesertIsCounted x = Check.of("c" + kind + "930;");
            for (int n = 0; n < 2; n++) {
                Check.due("kind " + kind + ": days(1)", due[kind][2 * n + 1], x.days(1));
                Check.due("kind " + kind + ": DONE", due[kind][2 * n], x.dip(3, 1));
            }
        }
        DesertIsCounted guesser = Check.of("c2990;g9000;d01;");
        Check.due("a GUESSER who counts nothing writes nothing", 0, guesser.count(4));
        DesertIsCounted one = Check.of("c2990;g9001;d01;");
        Check.due("a GUESSER who counts 1 writes FIGURE, too", 10, one.count(4));
        DesertIsCounted sleeper = Check.of("c6990;g9001;d02;");
        Check.due("a SLEEPER who counts 1 writes nothing", 0, sleeper.count(4));
        Check.due("but it is DONE", 1, sleeper.dip(9, 1));
        DesertIsCounted together = Check.of("c2000;c2000;c0000;");
        Check.due("each counts what those ahead of him left", 85, together.days(1));
        for (int bad : new int[] {0, -1, 61, Integer.MIN_VALUE, Integer.MAX_VALUE}) {
            Check.due("days(" + bad + ")", -1, together.days(bad));
        }
        Check.due("DAY", 1, together.count(1));
    }

    private static void whenTheyGoOn() {
        Check.promise(11, "days, when they go on");
        DesertIsCounted x = Check.of("c0030;c0071;g3010;g7010;d01;");
        Check.due("WAY 0 goes to greater dips", 4, x.corporal(0, 2));
        Check.due("WAY 1 goes to lesser dips", 6, x.corporal(1, 2));
        x = Check.of("c0090;c0001;g9000;g0000;d02;");
        Check.due("no dip behind the last", 9, x.corporal(0, 2));
        Check.due("no dip behind the first", 0, x.corporal(1, 2));
        x = Check.of("c0040;c0051;g4000;g5000;d03;");
        Check.due("one of the other WAY stands ahead of the first", 4, x.corporal(0, 2));
        Check.due("one of the other WAY stands ahead of the second", 5, x.corporal(1, 2));
        x.rests(1);
        x.days(1);
        Check.due("who RESTS stands there too", 4, x.corporal(0, 2));
        x.moves(1, 9);
        x.days(1);
        Check.due("and does not any more", 5, x.corporal(0, 2));
        x = Check.of("c0040;c0050;g4000;d01;");
        Check.due("one of the same WAY bars nobody", 5, x.corporal(0, 2));
        x = Check.of("c0040;c0061;g4000;g6000;d01;");
        Check.due("by numbers: the first goes", 5, x.corporal(0, 2));
        Check.due("by numbers: the second is barred then", 6, x.corporal(1, 2));
        x = Check.of("c0040;g4011;d01;");
        Check.due("1 is left", 4, x.corporal(0, 2));
        x = Check.of("c0050;c0051;g5010;d01;");
        Check.due("the first goes", 6, x.corporal(0, 2));
        Check.due("the second counts nothing and goes", 4, x.corporal(1, 2));
        x = Check.of("c6930;g3000;d01;");
        Check.due("a SLEEPER goes on an odd DAY, if all is DONE", 4, x.corporal(0, 2));
    }

    private static void whatTheWindCarries() {
        Check.promise(11, "days, what the WIND carries");
        DesertIsCounted x = Check.of("g3004;g9995;w9;d01;");
        int[] greater = {91, 100, 100, 9, 95, 100, 100, 100, 105, 999};
        for (int dip = 0; dip < 10; dip++) {
            Check.due("to greater dips: GRAINS of " + dip, greater[dip], x.dip(dip, 0));
        }
        x = Check.of("g3004;g0995;e9;d01;");
        int[] lesser = {999, 105, 95, 9, 100, 100, 100, 100, 100, 91};
        for (int dip = 0; dip < 10; dip++) {
            Check.due("to lesser dips: GRAINS of " + dip, lesser[dip], x.dip(dip, 0));
        }
        x = Check.of("c0000;g0013;w5;d01;");
        Check.due("what is not DONE is blown on first, then DONE", 8, x.dip(0, 1));
        Check.due("GRAINS", 8, x.dip(0, 0));
        Check.due("where it comes to it is not DONE", 0, x.dip(1, 1));
        Check.due("GRAINS there", 100, x.dip(1, 0));
        x = Check.of("c0000;w5;d01;");
        Check.due("DONE stays, while there is what is not DONE", 10, x.dip(0, 1));
        x = Check.of("c0090;g9010;g8010;w5;d01;");
        Check.due("they count and go ahead of the WIND", 10, x.dip(9, 1));
        Check.due("GRAINS of the last", 15, x.dip(9, 0));
        Check.due("no WIND carries nothing", 1000, Check.of("d60;").count(2));
    }

    private static void booksAndDaysHaveAnEnd() {
        Check.promise(11, "days, BOOKS up to 9999 and DAYS up to 999");
        DesertIsCounted x = Check.of("c5000;");
        for (int i = 0; i < 9; i++) {
            x.fills(0, 999);
            x.moves(0, 0);
            x.days(1);
        }
        Check.due("BOOK", 9000, x.count(4));
        x.fills(0, 999);
        Check.due("BOOK at most", 9999, x.days(1));
        Check.due("DONE all the same", 500, x.dip(0, 1));
        for (int i = 0; i < 16; i++) {
            x.days(60);
        }
        Check.due("DAY", 970, x.count(1));
        String before = Check.all(x);
        Check.due("days(30)", -3, x.days(30));
        Check.due("days(60)", -3, x.days(60));
        Check.due("days(61), told first", -1, x.days(61));
        Check.due("none of them goes", before, Check.all(x));
        Check.due("days(29)", 9999, x.days(29));
        Check.due("DAY", 999, x.count(1));
        Check.due("days(1)", -3, x.days(1));
    }
}
