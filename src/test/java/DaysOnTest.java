/** Promises 12 to 18: what is seen in mind, days on. */
public final class DaysOnTest {
    private static final int[] NO_DAYS_ON = {-1, 61, Integer.MIN_VALUE, Integer.MAX_VALUE};

    public static void main(String[] args) {
        corporalThen();
        dipThen();
        dipsDone();
        ends();
        meet();
        line();
        treaty();
        nothingChanges();
        Check.end();
    }

    private static void corporalThen() {
        Check.promise(12, "corporalThen");
        DesertIsCounted x = Check.of("c0000;c0991;r1;");
        int[] days = {0, 1, 9, 10, 11, 60};
        int[] dips = {0, 0, 0, 1, 1, 6};
        int[] books = {0, 10, 90, 100, 110, 600};
        for (int i = 0; i < days.length; i++) {
            Check.due("corporalThen(0, " + days[i] + ", 0)", dips[i], x.corporalThen(0, days[i], 0));
            Check.due("corporalThen(0, " + days[i] + ", 1)", books[i], x.corporalThen(0, days[i], 1));
        }
        Check.due("who RESTS stays", 9, x.corporalThen(1, 60, 0));
        Check.due("who RESTS writes nothing", 0, x.corporalThen(1, 60, 1));
        for (int n : NO_DAYS_ON) {
            Check.due("corporalThen(0, " + n + ", 0)", -1, x.corporalThen(0, n, 0));
        }
        Check.due("corporalThen(-1, 0, 0)", -1, x.corporalThen(-1, 0, 0));
        Check.due("corporalThen(2, 0, 0)", -1, x.corporalThen(2, 0, 0));
        Check.due("corporalThen(0, 0, -1)", -1, x.corporalThen(0, 0, -1));
        Check.due("corporalThen(0, 0, 2)", -1, x.corporalThen(0, 0, 2));
        DesertIsCounted last = Check.of("d60;".repeat(16) + "d39;", "c6090;");
        Check.due("DAY no matter: SLEEPER, the DAY behind the last", 4, last.corporalThen(0, 1, 1));
        Check.due("DAY no matter: SLEEPER, one DAY on", 4, last.corporalThen(0, 2, 1));
        Check.due("DAY no matter: SLEEPER, two DAYS on", 8, last.corporalThen(0, 3, 1));
    }

    private static void dipThen() {
        Check.promise(13, "dipThen");
        DesertIsCounted x = Check.of("c0000;w2;");
        int[] days = {0, 1, 5, 9, 10};
        int[] grains = {100, 98, 90, 82, 80};
        int[] done = {0, 10, 50, 82, 80};
        for (int i = 0; i < days.length; i++) {
            Check.due("dipThen(0, " + days[i] + ", 0)", grains[i], x.dipThen(0, days[i], 0));
            Check.due("dipThen(0, " + days[i] + ", 1)", done[i], x.dipThen(0, days[i], 1));
        }
        Check.due("dipThen(9, 60, 0)", 220, x.dipThen(9, 60, 0));
        for (int n : NO_DAYS_ON) {
            Check.due("dipThen(0, " + n + ", 0)", -1, x.dipThen(0, n, 0));
        }
        Check.due("dipThen(-1, 0, 0)", -1, x.dipThen(-1, 0, 0));
        Check.due("dipThen(10, 0, 0)", -1, x.dipThen(10, 0, 0));
        Check.due("dipThen(0, 0, -1)", -1, x.dipThen(0, 0, -1));
        Check.due("dipThen(0, 0, 2)", -1, x.dipThen(0, 0, 2));
    }

    private static void dipsDone() {
        Check.promise(14, "dipsDone");
        DesertIsCounted x = Check.of("c0910;c0991;g5000;");
        Check.due("dipsDone(0): one has no GRAINS", 32, x.dipsDone(0));
        Check.due("dipsDone(5)", 32, x.dipsDone(5));
        Check.due("dipsDone(6)", 32 + 2 + 512, x.dipsDone(6));
        Check.due("dipsDone(12)", 32 + 2 + 512 + 4 + 256, x.dipsDone(12));
        x.blows(1);
        Check.due("dipsDone(1): WIND came to dip 5", 0, x.dipsDone(1));
        for (int n : NO_DAYS_ON) {
            Check.due("dipsDone(" + n + ")", -1, x.dipsDone(n));
        }
    }

    private static void ends() {
        Check.promise(15, "ends");
        DesertIsCounted x = Check.of("c0000;g5000;");
        Check.due("ends(0)", 10, x.ends(0));
        Check.due("ends(4)", 50, x.ends(4));
        Check.due("ends(5)", 0, x.ends(5));
        Check.due("ends(6), a DAY goes by in dip 5", -4, x.ends(6));
        Check.due("ends(-1)", -4, x.ends(-1));
        x.fills(4, 89);
        Check.due("ends(6), on the last DAY of all", 60, x.ends(6));
        x.fills(4, 90);
        Check.due("ends(6)", 60, x.ends(6));
        x.fills(4, 91);
        Check.due("ends(6), too late", -4, x.ends(6));
        Check.due("ends(10)", -1, x.ends(10));
        Check.due("ends(-2)", -1, x.ends(-2));
        Check.due("ends(least)", -1, x.ends(Integer.MIN_VALUE));
        Check.due("ends(greatest)", -1, x.ends(Integer.MAX_VALUE));
        for (int dip = 0; dip < 10; dip++) {
            x.fills(dip, 10 * (dip % 3));
        }
        Check.due("all dips", 12, x.ends(-1));
        for (int dip = 0; dip < 10; dip++) {
            x.fills(dip, 0);
        }
        Check.due("all dips, none has GRAINS", 0, x.ends(-1));
        for (int dip = 0; dip < 10; dip++) {
            x.fills(dip, 1);
            Check.due("all dips but " + dip + ", when he comes there", dip + 1, x.ends(-1));
            x.fills(dip, 0);
        }
        x = Check.of("c0090;w5;");
        for (int dip = 0; dip < 10; dip++) {
            x.fills(dip, dip == 9 ? 10 : dip == 8 ? 15 : 0);
        }
        Check.due("ends(9): it blows behind the count", 4, x.ends(9));
        x.fills(9, 0);
        Check.due("ends(9): DONE first now, though not a DAY on", 0, x.ends(9));
        Check.due("all dips: not each at some time, but all at one", 4, x.ends(-1));
    }

    private static void meet() {
        Check.promise(16, "meet");
        DesertIsCounted x = Check.of("c0000;c0091;c0020;r2;");
        Check.due("meet(0, 1)", 40, x.meet(0, 1));
        Check.due("meet(1, 0)", 40, x.meet(1, 0));
        Check.due("meet(0, 2), next to each other", 10, x.meet(0, 2));
        x.moves(0, 2);
        Check.due("meet(0, 2), in one", 0, x.meet(0, 2));
        x.moves(0, 1);
        Check.due("meet(0, 2), next to each other now", 0, x.meet(0, 2));
        x.rests(0);
        x.rests(1);
        Check.due("meet(0, 1), never", -4, x.meet(0, 1));
        x = Check.of("c0000;c0090;r1;g0198;g1198;g2198;");
        Check.due("too late", -4, x.meet(0, 1));
        x.moves(1, 4);
        Check.due("on the last DAY", 60, x.meet(0, 1));
        x.fills(0, 201);
        Check.due("a DAY too late", -4, x.meet(0, 1));
        Check.due("meet(0, 0)", -1, x.meet(0, 0));
        Check.due("meet(0, 2)", -1, x.meet(0, 2));
        Check.due("meet(2, 0)", -1, x.meet(2, 0));
        Check.due("meet(-1, 0)", -1, x.meet(-1, 0));
        Check.due("meet(0, -1)", -1, x.meet(0, -1));
    }

    private static void line() {
        Check.promise(17, "line");
        Check.due("without CORPORALS", 9, new DesertIsCounted().line(60));
        DesertIsCounted x = Check.of("c0000;c0020;c0091;c0071;r3;");
        Check.due("line(0)", 27, x.line(0));
        Check.due("line(10)", 37, x.line(10));
        Check.due("line(60), when they met", 56, x.line(60));
        Check.due("of six", 18, Check.of("c0000;c0010;c0000;c0091;c0081;c0091;").line(0));
        Check.due("of WAY 0 alone", 59, Check.of("c0050;").line(0));
        Check.due("of WAY 1 alone", 5, Check.of("c0051;").line(0));
        for (int n : NO_DAYS_ON) {
            Check.due("line(" + n + ")", -1, x.line(n));
        }
    }

    private static void treaty() {
        Check.promise(18, "treaty");
        Check.due("without CORPORALS", 0, new DesertIsCounted().treaty(60));
        DesertIsCounted x = Check.of("c0000;c0191;c0281;c0310;r3;");
        Check.due("treaty(0)", 0, x.treaty(0));
        Check.due("treaty(1)", 10 - 11 - 12, x.treaty(1));
        x.days(1);
        Check.due("treaty(0)", -13, x.treaty(0));
        Check.due("of six", 10 - 11 + 12 - 13 + 14 - 15,
            Check.of("c0000;c0191;c0210;c0381;c0420;c0571;").treaty(1));
        x.rests(3);
        Check.due("treaty(2)", -13 + 2 * (10 - 11 - 12 + 13), x.treaty(2));
        for (int n : NO_DAYS_ON) {
            Check.due("treaty(" + n + ")", 1000000001, x.treaty(n));
        }
    }

    private static void nothingChanges() {
        Check.promise(12, "and 13 to 18: nothing changes");
        DesertIsCounted x = Check.of("c2300;c5491;c6550;w3;d05;r1;");
        String before = Check.all(x);
        x.corporalThen(0, 60, 0);
        x.dipThen(0, 60, 0);
        x.dipsDone(60);
        x.ends(-1);
        x.ends(9);
        x.meet(0, 1);
        x.line(60);
        x.treaty(60);
        Check.due("all", before, Check.all(x));
    }
}
