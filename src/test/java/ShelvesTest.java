/** Promises 39 to 45: shelves. */
public final class ShelvesTest {
    private static final int[] NO_SHELF = {-1, 8, Integer.MIN_VALUE, Integer.MAX_VALUE};

    public static void main(String[] args) {
        keep();
        row();
        put();
        element();
        copy();
        copyRefused();
        costAndToss();
        costAndTossRefused();
        refusalsChangeNothing();
        Check.end();
    }

    private static void keep() {
        Check.promise(39, "keep");
        DesertIsCounted x = new DesertIsCounted();
        Check.due("keep(0, 1, 7, 9)", 0, x.keep(0, 1, 7, 9));
        Check.due("FIGURE", 9, x.toss(0));
        Check.due("keep(7, 1, 0, 0)", 0, x.keep(7, 1, 0, 0));
        Check.due("cost(7)", 4, x.cost(7));
        Check.due("a KIND in place of another", 0, x.keep(0, 1, 5, 1));
        Check.due("cost(0)", 3, x.cost(0));
        Check.due("keep(0, 0, 99, -5): the others do not matter", 0, x.keep(0, 0, 99, -5));
        Check.due("nothing is held", -11, x.cost(0));
        x.row(0, 0, 3);
        Check.due("a KIND in place of a ROW", 0, x.keep(0, 1, 0, 3));
        Check.due("no ROW any more", -12, x.put(0, 0, 1));
        x.row(0, 0, 3);
        Check.due("nothing in place of a ROW", 0, x.keep(0, 0, 0, 0));
        Check.due("no ROW any more", -11, x.put(0, 0, 1));
        for (int bad : NO_SHELF) {
            Check.due("keep(" + bad + ", 0, 0, 0)", -1, x.keep(bad, 0, 0, 0));
            Check.due("keep(" + bad + ", 1, 0, 0)", -1, x.keep(bad, 1, 0, 0));
            Check.due("keep(7, 1, " + bad + ", 0)", -1, x.keep(7, 1, bad, 0));
        }
        for (int bad : new int[] {-1, 10, Integer.MIN_VALUE, Integer.MAX_VALUE}) {
            Check.due("keep(7, 1, 0, " + bad + ")", -1, x.keep(7, 1, 0, bad));
        }
        for (int bad : new int[] {-1, 2, Integer.MIN_VALUE, Integer.MAX_VALUE}) {
            Check.due("keep(7, " + bad + ", 0, 0)", -1, x.keep(7, bad, 0, 0));
        }
        Check.due("nothing changed", 4, x.cost(7));
    }

    private static void row() {
        Check.promise(40, "row");
        DesertIsCounted x = new DesertIsCounted();
        for (int sort = 0; sort <= 2; sort++) {
            Check.due("row(0, " + sort + ", 100)", 0, x.row(0, sort, 100));
            Check.due("element 99", "0", Check.elementOf(x, 0, 99));
            Check.due("put(0, 0, 65)", 0, x.put(0, 0, 65));
            Check.due("put(0, 99, 66)", 0, x.put(0, 99, 66));
        }
        Check.due("no place 100", -13, x.put(0, 100, 1));
        Check.due("row(0, 2, 100) again", 0, x.row(0, 2, 100));
        Check.due("0 at first", "0", Check.elementOf(x, 0, 0));
        Check.due("0 at first", "0", Check.elementOf(x, 0, 99));
        Check.due("row(0, 2, 0)", 0, x.row(0, 2, 0));
        Check.due("no place 0", -13, x.put(0, 0, 1));
        x.row(0, 2, 2);
        x.put(0, 1, 5);
        x.row(0, 2, 1);
        Check.due("a shorter one", -13, x.put(0, 1, 1));
        x.row(0, 2, 2);
        Check.due("0 at first, though it was made longer again", "0", Check.elementOf(x, 0, 1));
        Check.due("a ROW in place of a KIND", 0, x.keep(1, 1, 0, 0) + x.row(1, 0, 1));
        Check.due("no KIND any more", -12, x.cost(1));
        for (int bad : NO_SHELF) {
            Check.due("row(" + bad + ", 0, 1)", -1, x.row(bad, 0, 1));
            Check.due("row(" + bad + ", 0, -1)", -1, x.row(bad, 0, -1));
        }
        for (int bad : new int[] {-1, 3, Integer.MIN_VALUE, Integer.MAX_VALUE}) {
            Check.due("row(0, " + bad + ", 1)", -1, x.row(0, bad, 1));
            Check.due("row(0, " + bad + ", -1)", -1, x.row(0, bad, -1));
        }
        Check.due("row(0, 0, 101)", -1, x.row(0, 0, 101));
        Check.due("row(0, 0, greatest)", -1, x.row(0, 0, Integer.MAX_VALUE));
        Check.due("row(0, 0, -1)", -14, x.row(0, 0, -1));
        Check.due("row(0, 0, least)", -14, x.row(0, 0, Integer.MIN_VALUE));
        Check.due("what was held stays", 0, x.put(0, 1, 1));
    }

    private static void put() {
        Check.promise(41, "put");
        DesertIsCounted x = new DesertIsCounted();
        int[] put = {127, 128, -128, -129, 255, 256, 32767, 32768, -32768, -32769, 65535, 70000, Integer.MAX_VALUE, Integer.MIN_VALUE};
        int[] bytes = {127, -128, -128, 127, -1, 0, -1, 0, 0, -1, -1, 112, -1, 0};
        int[] shorts = {127, 128, -128, -129, 255, 256, 32767, -32768, -32768, 32767, -1, 4464, -1, 0};
        x.row(0, 0, 2);
        x.row(1, 1, 2);
        x.row(2, 2, 2);
        for (int i = 0; i < put.length; i++) {
            Check.due("put(0, 1, " + put[i] + ")", 0, x.put(0, 1, put[i]) + x.put(1, 1, put[i]) + x.put(2, 1, put[i]));
            Check.due("a byte of " + put[i], String.valueOf(bytes[i]), Check.elementOf(x, 0, 1));
            Check.due("a short of " + put[i], String.valueOf(shorts[i]), Check.elementOf(x, 1, 1));
            Check.due("an int of " + put[i], String.valueOf(put[i]), Check.elementOf(x, 2, 1));
        }
        Check.due("the other place stays", "0", Check.elementOf(x, 2, 0));
        x.keep(3, 1, 0, 0);
        for (int bad : NO_SHELF) {
            Check.due("put(" + bad + ", 0, 0)", -1, x.put(bad, 0, 0));
        }
        for (int bad : new int[] {-1, 2, Integer.MIN_VALUE, Integer.MAX_VALUE}) {
            Check.due("put(0, " + bad + ", 0)", -13, x.put(0, bad, 0));
            Check.due("put(4, " + bad + ", 0), told ahead of the place", -11, x.put(4, bad, 0));
            Check.due("put(3, " + bad + ", 0), told ahead of the place", -12, x.put(3, bad, 0));
        }
    }

    private static void element() {
        Check.promise(42, "element");
        DesertIsCounted x = new DesertIsCounted();
        Check.tell(x, 0, 2, Integer.MIN_VALUE, 7);
        x.keep(1, 1, 0, 5);
        Check.due("element(0, 0)", "-2147483648", Check.elementOf(x, 0, 0));
        Check.due("element(0, 1)", "7", Check.elementOf(x, 0, 1));
        for (int bad : NO_SHELF) {
            Check.due("element(" + bad + ", 0)", "IllegalArgumentException", Check.elementOf(x, bad, 0));
            Check.due("element(" + bad + ", -1)", "IllegalArgumentException", Check.elementOf(x, bad, -1));
        }
        for (int bad : new int[] {-1, 2, 100, Integer.MIN_VALUE, Integer.MAX_VALUE}) {
            Check.due("element(0, " + bad + ")", "IllegalStateException", Check.elementOf(x, 0, bad));
        }
        Check.due("a CORPORAL held", "IllegalStateException", Check.elementOf(x, 1, 0));
        Check.due("nothing held", "IllegalStateException", Check.elementOf(x, 2, 0));
        x.keep(0, 0, 0, 0);
        Check.due("nothing held any more", "IllegalStateException", Check.elementOf(x, 0, 0));
    }

    private static String elements(DesertIsCounted x, int d, int n) {
        StringBuilder all = new StringBuilder();
        for (int i = 0; i < n; i++) {
            all.append(Check.elementOf(x, d, i)).append(' ');
        }
        return all.toString().trim();
    }

    private static void copy() {
        Check.promise(43, "copy");
        DesertIsCounted x = new DesertIsCounted();
        Check.tell(x, 0, 1, 1, 2, 3, 4, 5);
        Check.tell(x, 1, 1, 10, 20, 30);
        Check.due("copy(0, 1, 1, 0, 2)", 2, x.copy(0, 1, 1, 0, 2));
        Check.due("to", "2 3 30", elements(x, 1, 3));
        Check.due("from", "1 2 3 4 5", elements(x, 0, 5));
        Check.due("copy(0, 2, 1, 0, 3), to the ends", 3, x.copy(0, 2, 1, 0, 3));
        Check.due("to", "3 4 5", elements(x, 1, 3));
        Check.due("copy(0, 0, 0, 1, 4), within one, to greater places", 4, x.copy(0, 0, 0, 1, 4));
        Check.due("as it was ahead of it", "1 1 2 3 4", elements(x, 0, 5));
        Check.due("copy(0, 1, 0, 0, 4), within one, to lesser places", 4, x.copy(0, 1, 0, 0, 4));
        Check.due("as it was ahead of it", "1 2 3 4 4", elements(x, 0, 5));
        Check.due("copy(0, 0, 1, 0, 0)", 0, x.copy(0, 0, 1, 0, 0));
        Check.due("copy(0, 5, 1, 3, 0), none from the end to the end", 0, x.copy(0, 5, 1, 3, 0));
        Check.due("to", "3 4 5", elements(x, 1, 3));
        x.row(2, 2, 100);
        x.row(3, 2, 100);
        x.put(2, 99, Integer.MIN_VALUE);
        Check.due("copy(2, 0, 3, 0, 100)", 100, x.copy(2, 0, 3, 0, 100));
        Check.due("the last", "-2147483648", Check.elementOf(x, 3, 99));
    }

    private static void copyRefused() {
        Check.promise(43, "copy, refusals");
        DesertIsCounted x = new DesertIsCounted();
        Check.tell(x, 0, 1, 1, 2, 3);
        Check.tell(x, 1, 1, 4, 5);
        x.row(2, 0, 5);
        x.row(3, 2, 5);
        x.keep(4, 1, 0, 0);
        for (int bad : NO_SHELF) {
            Check.due("copy(" + bad + ", 0, 5, 0, 1), told ahead of nothing", -1, x.copy(bad, 0, 5, 0, 1));
            Check.due("copy(5, 0, " + bad + ", 0, 1), told ahead of nothing", -1, x.copy(5, 0, bad, 0, 1));
        }
        Check.due("from nothing", -11, x.copy(5, 0, 0, 0, 1));
        Check.due("to nothing", -11, x.copy(0, 0, 5, 0, 1));
        Check.due("from a CORPORAL to nothing: nothing is told first", -11, x.copy(4, 0, 5, 0, -1));
        Check.due("from nothing to a CORPORAL: nothing is told first", -11, x.copy(5, 0, 4, 0, -1));
        Check.due("from a CORPORAL", -12, x.copy(4, 0, 0, 0, 1));
        Check.due("to a CORPORAL", -12, x.copy(0, 0, 4, 0, 1));
        x.row(6, 1, 3);
        x.keep(6, 1, 0, 0);
        Check.due("from a CORPORAL where shorts were", -12, x.copy(6, 0, 0, 0, 1));
        Check.due("to a CORPORAL where shorts were", -12, x.copy(0, 0, 6, 0, 1));
        Check.due("from a CORPORAL to one", -12, x.copy(4, 0, 4, 0, 1));
        Check.due("shorts to bytes, told ahead of the place", -12, x.copy(0, 9, 2, 0, 1));
        Check.due("shorts to ints, told ahead of the size", -12, x.copy(0, 0, 3, 0, -1));
        Check.due("n below 0", -13, x.copy(0, 0, 1, 0, -1));
        Check.due("n the least", -13, x.copy(0, 0, 1, 0, Integer.MIN_VALUE));
        Check.due("n too great for what it goes to", -13, x.copy(0, 0, 1, 0, 3));
        Check.due("n too great for what it comes from", -13, x.copy(1, 0, 0, 0, 3));
        Check.due("from behind the end", -13, x.copy(0, 2, 1, 0, 2));
        Check.due("to behind the end", -13, x.copy(0, 0, 1, 1, 2));
        Check.due("none from behind the end", -13, x.copy(0, 4, 1, 0, 0));
        Check.due("none to behind the end", -13, x.copy(0, 0, 1, 3, 0));
        Check.due("from below 0", -13, x.copy(0, -1, 1, 0, 1));
        Check.due("to below 0", -13, x.copy(0, 0, 1, -1, 1));
        Check.due("from the greatest", -13, x.copy(0, Integer.MAX_VALUE, 1, 0, 1));
        Check.due("to the greatest", -13, x.copy(0, 0, 1, Integer.MAX_VALUE, 1));
        Check.due("all of them the greatest", -13, x.copy(0, Integer.MAX_VALUE, 1, Integer.MAX_VALUE, Integer.MAX_VALUE));
        Check.due("n the greatest", -13, x.copy(0, 0, 1, 0, Integer.MAX_VALUE));
        Check.due("from", "1 2 3", elements(x, 0, 3));
        Check.due("to", "4 5", elements(x, 1, 2));
    }

    private static void costAndToss() {
        // By kinds, for FIGURES 0, 1, 6 and 9.
        int[] figures = {0, 1, 6, 9};
        int[][] costs = {{4, 4, 4, 4}, {4, 5, 10, 13}, {2, 2, 2, 2}, {3, 3, 3, 3}, {0, 0, 0, 0}, {2, 3, 8, 11}, {1, 1, 1, 1}, {4, 4, 4, 4}};
        int[][] failures = {{-15, 1, 6, 9}, {-15, 1, 6, 9}, {-15, 101, 106, 109}, {-15, -15, -15, -15}, {-15, 1, 6, 9},
            {-15, 203, 208, 211}, {-15, -15, -15, -15}, {-15, 1, 6, 9}};
        DesertIsCounted x = new DesertIsCounted();
        for (int kind = 0; kind < 8; kind++) {
            for (int i = 0; i < figures.length; i++) {
                x.keep(kind, 1, kind, figures[i]);
                Check.promise(44, "cost");
                Check.due("kind " + kind + " with FIGURE " + figures[i], costs[kind][i], x.cost(kind));
                Check.promise(45, "toss");
                Check.due("kind " + kind + " with FIGURE " + figures[i], failures[kind][i], x.toss(kind));
            }
        }
    }

    private static void costAndTossRefused() {
        DesertIsCounted x = new DesertIsCounted();
        x.row(1, 0, 1);
        for (int bad : NO_SHELF) {
            Check.promise(44, "cost");
            Check.due("cost(" + bad + ")", -1, x.cost(bad));
            Check.promise(45, "toss");
            Check.due("toss(" + bad + ")", -1, x.toss(bad));
        }
        Check.promise(44, "cost");
        Check.due("nothing held", -11, x.cost(0));
        Check.due("a ROW held", -12, x.cost(1));
        Check.promise(45, "toss");
        Check.due("nothing held", -11, x.toss(0));
        Check.due("a ROW held", -12, x.toss(1));
    }

    private static void refusalsChangeNothing() {
        Check.promise(39, "to 45: what is refused changes nothing, nor do cost, toss and element");
        DesertIsCounted x = Check.of("c2300;w3;d05;");
        Check.tell(x, 0, 1, 1, 2, 3);
        x.keep(1, 1, 5, 5);
        String before = Check.all(x);
        x.keep(0, 2, 0, 0);
        x.keep(0, 1, 8, 0);
        x.keep(1, 1, 0, 10);
        x.row(0, 3, 1);
        x.row(0, 0, 101);
        x.row(1, 0, -1);
        x.put(0, 3, 1);
        x.put(1, 0, 1);
        x.copy(0, 0, 0, 1, 3);
        x.copy(0, 0, 1, 0, 1);
        x.comes(0, 0, 0);
        x.desert(0);
        Check.due("all", before, Check.all(x));
    }
}
