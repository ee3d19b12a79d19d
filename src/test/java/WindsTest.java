/** Promises 19 to 27: winds, whom to send. */
public final class WindsTest {
    private static final int[] NO_DAYS_ON = {-1, 61, Integer.MIN_VALUE, Integer.MAX_VALUE};
    private static final int[] NO_PART = {-1, 2, Integer.MIN_VALUE, Integer.MAX_VALUE};

    public static void main(String[] args) {
        bestWind();
        send();
        idle();
        slowest();
        lost();
        heap();
        begin();
        pairs();
        even();
        nothingChanges();
        Check.end();
    }

    /** All dips hold nothing but those told, each as dip and grains. */
    private static DesertIsCounted withGrains(String text, int... told) {
        DesertIsCounted x = Check.of(text);
        for (int dip = 0; dip < 10; dip++) {
            x.fills(dip, 0);
        }
        for (int i = 0; i < told.length; i += 2) {
            x.fills(told[i], told[i + 1]);
        }
        return x;
    }

    private static void bestWind() {
        Check.promise(19, "bestWind");
        DesertIsCounted x = withGrains("c0990;w3;", 8, 999);
        Check.due("most to greater dips", 9, x.bestWind(3, 0));
        Check.due("that", 18, x.bestWind(3, 1));
        x.fills(8, 8);
        Check.due("of several the least", 8, x.bestWind(2, 0));
        Check.due("that", 8, x.bestWind(2, 1));
        Check.due("none is better", -9, x.bestWind(1, 0));
        Check.due("that", 0, x.bestWind(1, 1));
        x = withGrains("c0901;", 1, 999);
        Check.due("most to lesser dips", -9, x.bestWind(3, 0));
        Check.due("that", 18, x.bestWind(3, 1));
        x = Check.of("c0000;c0050;d03;");
        Check.due("behind no DAYS", -9, x.bestWind(0, 0));
        Check.due("all BOOKS are counted with what was in them", 60, x.bestWind(0, 1));
        for (int n : NO_DAYS_ON) {
            Check.due("bestWind(" + n + ", 0)", 1000000001, x.bestWind(n, 0));
            Check.due("bestWind(" + n + ", 1)", 1000000001, x.bestWind(n, 1));
        }
        for (int what : NO_PART) {
            Check.due("bestWind(0, " + what + ")", 1000000001, x.bestWind(0, what));
        }
    }

    private static void send() {
        Check.promise(20, "send");
        DesertIsCounted x = Check.of("c0090;c0091;r1;g4010;g5010;g6010;");
        int[] days = {0, 1, 2, 3, 12, 13};
        int[] dips = {0, 4, 4, 4, 3, 3};
        int[] done = {0, 1, 2, 3, 3, 4};
        for (int i = 0; i < days.length; i++) {
            Check.due("send(0, " + days[i] + ", 0)", dips[i], x.send(0, days[i], 0));
            Check.due("send(0, " + days[i] + ", 1)", done[i], x.send(0, days[i], 1));
        }
        Check.due("who RESTS does as little anywhere", 0, x.send(1, 10, 0));
        x.rests(1);
        x.rests(0);
        Check.due("one of WAY 1", 6, x.send(1, 3, 0));
        x.fills(9, 0);
        Check.due("what is DONE anyway is told, too", 4, x.send(1, 3, 1));
        Check.due("send(2, 0, 0)", -1, x.send(2, 0, 0));
        Check.due("send(-1, 0, 0)", -1, x.send(-1, 0, 0));
        for (int n : NO_DAYS_ON) {
            Check.due("send(0, " + n + ", 0)", -1, x.send(0, n, 0));
        }
        for (int what : NO_PART) {
            Check.due("send(0, 0, " + what + ")", -1, x.send(0, 0, what));
        }
    }

    private static void idle() {
        Check.promise(21, "idle");
        Check.due("without CORPORALS", -4, new DesertIsCounted().idle(60));
        DesertIsCounted x = Check.of("c0000;c0010;");
        Check.due("all are missed", -4, x.idle(1));
        Check.due("behind no DAYS nobody is", 0, x.idle(0));
        x.rests(1);
        Check.due("who RESTS is as he is", 1, x.idle(1));
        x = Check.of("c0000;c5000;g0020;");
        Check.due("more is in all BOOKS without him", 0, x.idle(1));
        x = Check.of("c5000;c0000;g0020;");
        Check.due("as much is in all BOOKS without him", 1, x.idle(1));
        x = Check.of("c5000;c0000;c0000;g0020;");
        Check.due("of several the least", 1, x.idle(1));
        for (int n : NO_DAYS_ON) {
            Check.due("idle(" + n + ")", -1, x.idle(n));
        }
    }

    private static void slowest() {
        Check.promise(22, "slowest");
        Check.due("without CORPORALS", -4, new DesertIsCounted().slowest(60));
        DesertIsCounted x = Check.of("c0900;c3050;c3060;");
        Check.due("of several the least", 1, x.slowest(1));
        Check.due("behind no DAYS", 0, x.slowest(0));
        x.rests(2);
        Check.due("who RESTS", 2, x.slowest(1));
        x = withGrains("c5000;", 0, 999, 1, 999, 2, 999, 3, 999, 4, 999, 5, 999, 6, 999);
        Check.due("BOOK of the one who grows most of all", 9999, x.corporalThen(0, 60, 1));
        Check.due("he is slowest, alone", 0, x.slowest(60));
        x = Check.of("c0010;c5000;g9000;d01;");
        x.moves(1, 9);
        Check.due("by what has grown, not by what is in it", 1, x.slowest(1));
        for (int n : NO_DAYS_ON) {
            Check.due("slowest(" + n + ")", -1, x.slowest(n));
        }
    }

    private static void lost() {
        Check.promise(23, "lost");
        DesertIsCounted x = Check.of("c0000;g0010;w5;");
        int[] lost = {0, 5, 10, 10};
        for (int n = 0; n < lost.length; n++) {
            Check.due("lost(" + n + ")", lost[n], x.lost(n));
        }
        x.days(1);
        Check.due("only what is blown on from now", 5, x.lost(1));
        for (int n : NO_DAYS_ON) {
            Check.due("lost(" + n + ")", -1, x.lost(n));
        }
        x = Check.of("c0090;g9010;w9;d01;");
        Check.due("nothing blows on from the last dip", 0, x.lost(60));
        x.blows(-9);
        Check.due("but it does the other way, where he makes all DONE ahead of it", 9, x.lost(1));
        x.rests(0);
        int[] without = {0, 0, 9, 10, 10};
        for (int n = 0; n < without.length; n++) {
            Check.due("what is not DONE is blown on first: lost(" + n + ")", without[n], x.lost(n));
        }
    }

    private static void heap() {
        Check.promise(24, "heap");
        DesertIsCounted x = Check.of("g4100;g7101;g8101;");
        Check.due("of several the least", 7, x.heap(0, 0));
        Check.due("that", 101, x.heap(0, 1));
        x.blows(9);
        Check.due("behind 5 DAYS", 9, x.heap(5, 0));
        Check.due("that", 145, x.heap(5, 1));
        x.blows(-9);
        Check.due("the other way", 0, x.heap(5, 0));
        Check.due("without GRAINS", 0, withGrains("f;").heap(60, 0));
        Check.due("that", 0, withGrains("f;").heap(60, 1));
        for (int n : NO_DAYS_ON) {
            Check.due("heap(" + n + ", 0)", -1, x.heap(n, 0));
        }
        for (int what : NO_PART) {
            Check.due("heap(0, " + what + ")", -1, x.heap(0, what));
        }
    }

    private static void begin() {
        Check.promise(25, "begin");
        DesertIsCounted x = withGrains("c0001;c0091;r1;", 2, 10, 3, 5);
        Check.due("WAYS first, of several", 2, x.begin(0, 2));
        Check.due("one DAY", 2, x.begin(0, 1));
        x.moves(1, 3);
        Check.due("one of WAY 1 bars WAY 0", 13, x.begin(0, 2));
        Check.due("behind no DAYS", 0, x.begin(0, 0));
        Check.due("who RESTS", 0, x.begin(1, 60));
        Check.due("begin(-1, 0)", -1, x.begin(-1, 0));
        Check.due("begin(2, 0)", -1, x.begin(2, 0));
        for (int n : NO_DAYS_ON) {
            Check.due("begin(0, " + n + ")", -1, x.begin(0, n));
        }
    }

    private static void pairs() {
        Check.promise(26, "pairs");
        String[] deserts = {"f;", "c0000;", "c0001;", "c0000;c0010;", "c0000;c0031;", "c0000;c0041;", "c0061;c0090;",
            "c0051;c0090;", "c0000;c0001;c0001;", "c0000;c0000;c0001;", "c0030;c0000;c0031;c0061;", "c0030;c0060;c0031;c0001;",
            "c0050;c0050;c0050;c0051;c0051;c0051;", "c0000;c0010;c0020;c0041;c0051;c0061;",
            "c0090;c0060;c0031;c0061;", "c0030;c0041;c0021;c0031;", "c0000;c0031;r0;r1;"};
        int[] due = {0, 0, 0, 0, 1, 0, 1, 0, 1, 1, 2, 2, 3, 2, 2, 1, 1};
        for (int i = 0; i < deserts.length; i++) {
            Check.due(deserts[i], due[i], Check.of(deserts[i]).pairs());
        }
    }

    private static void even() {
        Check.promise(27, "even");
        DesertIsCounted x = new DesertIsCounted();
        Check.due("at first", 4, x.even(0));
        Check.due("by how much", 0, x.even(1));
        x.fills(0, 101);
        Check.due("one more", 4, x.even(0));
        Check.due("by how much", 1, x.even(1));
        x.fills(0, 999);
        Check.due("most up to the first", 0, x.even(0));
        Check.due("by how much", 99, x.even(1));
        x = withGrains("f;", 8, 3, 9, 7);
        Check.due("most behind the last line", 8, x.even(0));
        Check.due("by how much", 4, x.even(1));
        x = withGrains("f;", 4, 10);
        Check.due("of several the least", 0, x.even(0));
        Check.due("by how much", 10, x.even(1));
        x = withGrains("f;", 0, 10, 1, 10, 2, 10);
        Check.due("of two the least", 0, x.even(0));
        Check.due("by how much", 10, x.even(1));
        Check.due("without GRAINS", 0, withGrains("f;").even(0));
        for (int what : NO_PART) {
            Check.due("even(" + what + ")", -1, x.even(what));
        }
    }

    private static void nothingChanges() {
        Check.promise(19, "and 20 to 27: nothing changes");
        DesertIsCounted x = Check.of("c2300;c5491;c6550;w3;d05;r1;");
        String before = Check.all(x);
        x.bestWind(60, 0);
        x.send(0, 60, 0);
        x.idle(60);
        x.slowest(60);
        x.lost(60);
        x.heap(60, 0);
        x.begin(1, 60);
        x.pairs();
        x.even(0);
        Check.due("all", before, Check.all(x));
    }
}
