/** Promises 33 to 35: told books, deserts by seeds. */
public final class ToldBooksTest {
    public static void main(String[] args) {
        forged();
        judge();
        refusals();
        deserts();
        desertsOfCorporals();
        nothingChanges();
        Check.end();
    }

    private static void forgedDue(DesertIsCounted x, int want, int sort, int... told) {
        Check.tell(x, 0, sort, told);
        Check.due("a ROW of " + told.length, want, x.forged(0));
    }

    private static void forged() {
        Check.promise(33, "forged");
        DesertIsCounted x = Check.of("g2050;g4000;g5999;");
        forgedDue(x, -4, 1);
        forgedDue(x, -4, 1, 0);
        forgedDue(x, -4, 1, 100, 0, 50, 100, 0, 999, 1, 2, 3, 4);
        forgedDue(x, 10, 1, 100, 0, 50, 100, 0, 999, 1, 2, 3, 4, 0);
        forgedDue(x, 0, 1, 101);
        forgedDue(x, 2, 1, 100, 100, 51, -1);
        forgedDue(x, 1, 1, 100, -1, 51);
        forgedDue(x, 4, 1, 0, 0, 0, 0, 1);
        forgedDue(x, 1, 0, 100, -128);
        forgedDue(x, 0, 1, -32768);
        forgedDue(x, 0, 2, Integer.MIN_VALUE);
        forgedDue(x, 9, 2, 0, 0, 0, 0, 0, 0, 0, 0, 0, Integer.MAX_VALUE, 0);
    }

    private static void judgeDue(DesertIsCounted x, int want, int sort, int... told) {
        Check.tell(x, 0, sort, told);
        Check.due("a ROW of " + told.length, want, x.judge(0));
    }

    private static void judge() {
        Check.promise(34, "judge");
        DesertIsCounted x = Check.of("c0000;c0150;");
        judgeDue(x, -4, 1);
        judgeDue(x, -4, 1, 0, 21, 42);
        judgeDue(x, 2, 1, 0, 21, 43, 0);
        judgeDue(x, 0, 1, 1, 21);
        judgeDue(x, 3, 1, -32768, 21, -32768, 64);
        judgeDue(x, -4, 1, -32768, 21, -32768, 63);
        judgeDue(x, -4, 0, -128, 21, -128);
        judgeDue(x, -4, 2, Integer.MIN_VALUE, 21);
        judgeDue(x, 0, 1, -128, 21);
        judgeDue(x, 0, 2, -32768, 21);
        x.days(1);
        judgeDue(x, -4, 1, 21, 42);
        judgeDue(x, 0, 1, 0, 21);
        x.row(0, 1, 100);
        for (int i = 0; i < 99; i++) {
            x.put(0, i, -32768);
        }
        Check.due("the last of 100", 99, x.judge(0));
        DesertIsCounted alone = Check.of("c0090;g9999;");
        alone.row(0, 1, 100);
        for (int i = 0; i < 99; i++) {
            alone.put(0, i, -32768);
        }
        alone.put(0, 99, 990);
        Check.due("99 DAYS on", -4, alone.judge(0));
        alone.put(0, 99, 991);
        Check.due("99 DAYS on, not so", 99, alone.judge(0));
    }

    private static void refusals() {
        Check.promise(33, "and 34, refusals");
        DesertIsCounted x = new DesertIsCounted();
        x.keep(1, 1, 0, 0);
        for (int bad : new int[] {-1, 8, Integer.MIN_VALUE, Integer.MAX_VALUE}) {
            Check.due("forged(" + bad + ")", -1, x.forged(bad));
            Check.due("judge(" + bad + ")", -1, x.judge(bad));
        }
        Check.due("forged(0)", -11, x.forged(0));
        Check.due("judge(0)", -11, x.judge(0));
        Check.due("forged(1)", -12, x.forged(1));
        Check.due("judge(1)", -12, x.judge(1));
    }

    // The first draws below 200: seed 1: 38 158 113 115 51 27 10 19 12 86, 149 167 ..;
    // seed 472: 24 0 0 95 ..; seed 0: 0 68 188 .. 10, 61 52 ..; seed -1: 129 9 62 .. 134, 173 169 ..;
    // seed 7: 164 6 68 74 131 165 34 190 185 113, 13 163 30 ..

    private static void deserts() {
        Check.promise(35, "deserts");
        DesertIsCounted x = new DesertIsCounted();
        Check.due("no GRAINS in two", 2, x.deserts(1, 472, 0));
        Check.due("no GRAINS in one", 1, x.deserts(1, 0, 0));
        Check.due("nor in the next desert", 1, x.deserts(2, 0, 0));
        Check.due("none without", 0, x.deserts(1, 7, 0));
        Check.due("in 200 draws", 1, x.deserts(20, 1, 0));
        Check.due("in 200 other draws", 3, x.deserts(20, 9, 0));
        Check.due("no BOOKS", 0, x.deserts(20, 7, 1));
        for (int bad : new int[] {0, 21, -1, Integer.MIN_VALUE, Integer.MAX_VALUE}) {
            Check.due("deserts(" + bad + ", 1, 0)", -1, x.deserts(bad, 1, 0));
        }
        for (int bad : new int[] {-1, 2, Integer.MIN_VALUE, Integer.MAX_VALUE}) {
            Check.due("deserts(1, 1, " + bad + ")", -1, x.deserts(1, 1, bad));
        }
    }

    private static void desertsOfCorporals() {
        Check.promise(35, "deserts, with CORPORALS");
        // 38 on 4 DAYS, then 60 of 158; 100 of 149.
        DesertIsCounted x = Check.of("c0000;d03;");
        Check.due("DIPS DONE", 1, x.deserts(1, 1, 0));
        Check.due("BOOKS", 98, x.deserts(1, 1, 1));
        Check.due("two: DIPS DONE", 1, x.deserts(2, 1, 0));
        Check.due("two: BOOKS", 198, x.deserts(2, 1, 1));
        Check.due("a seed below 0: BOOKS", 200, x.deserts(2, -1, 1));
        Check.due("13 on 2 DAYS, then 80 of 163", 193, x.deserts(2, 7, 1));
        x.days(4);
        Check.due("each from now: BOOKS more", 198, x.deserts(2, 1, 1));
        x.rests(0);
        Check.due("who RESTS", 0, x.deserts(20, 1, 1));
        x.blows(9);
        Check.due("the WIND empties dip 0, which holds 38, on DAY 5", 1, x.deserts(1, 1, 0));
    }

    private static void nothingChanges() {
        Check.promise(33, "to 35: nothing changes");
        DesertIsCounted x = Check.of("c2300;c5491;c6550;w3;d05;r1;");
        Check.tell(x, 0, 1, -32768, -32768, 7);
        String before = Check.all(x);
        x.forged(0);
        x.judge(0);
        x.deserts(20, 3, 0);
        Check.due("all", before, Check.all(x));
    }
}
