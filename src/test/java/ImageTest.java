/** Promises 36 to 38: the image, what is told. */
public final class ImageTest {
    public static void main(String[] args) {
        imageAndRestore();
        shelvesStay();
        count();
        Check.end();
    }

    private static void imageAndRestore() {
        Check.promise(36, "image, and 37, restore");
        DesertIsCounted x = told();
        String before = Check.all(x);
        Check.due("image()", 5, x.image());
        Check.due("all stays", before, Check.all(x));
        changeAll(x);
        Check.due("restore()", 5, x.restore());
        Check.due("all is as it was", before, Check.all(x));
        x = told();
        x.image();
        changeAll(x);
        x.restore();
        Check.due("and goes on as it did", 0, x.rests(1));
        x.days(60);
        Check.due("restore() again", 5, x.restore());
        Check.due("all is as it was", before, Check.all(x));
        Check.due("a refused restore() changes nothing", -3, new DesertIsCounted().restore());
    }

    private static DesertIsCounted told() {
        DesertIsCounted x = new DesertIsCounted();
        Check.due("restore() ahead of image()", -3, x.restore());
        Check.write(x, 0, "c2300;c5491;c6550;w3;d05;r1;g4007;");
        x.desert(0);
        return x;
    }

    /** Each part of the desert, but no shelf. */
    private static void changeAll(DesertIsCounted x) {
        x.fills(0, 55);
        x.moves(0, 9);
        x.rests(0);
        x.rests(1);
        x.blows(-7);
        x.days(60);
        x.desert(0);
        x.flood();
        x.days(3);
    }

    private static void shelvesStay() {
        Check.promise(37, "restore, and 36, image: SHELVES stay");
        DesertIsCounted x = new DesertIsCounted();
        x.keep(1, 1, 1, 5);
        Check.due("image()", 0, x.image());
        x.keep(1, 0, 0, 0);
        Check.tell(x, 2, 1, 77);
        Check.write(x, 3, "c0000;");
        x.desert(3);
        Check.due("restore()", 0, x.restore());
        Check.due("nothing is held", -11, x.cost(1));
        Check.due("a ROW is held", "77", Check.elementOf(x, 2, 0));
        Check.due("no CORPORAL any more", 0, x.count(0));
        Check.due("the next one's number", 1, x.desert(3));
        x.days(7);
        Check.due("a newer image()", 7, x.image());
        x.days(1);
        Check.due("restore()", 7, x.restore());
        Check.due("DAY", 7, x.count(1));
        Check.due("BOOK", 70, x.count(4));
    }

    private static void count() {
        Check.promise(38, "count");
        DesertIsCounted x = Check.of("c0000;c0150;c0090;r2;r0;g4007;w2;d03;");
        int[] due = {3, 3, 907, 33, 33, 5, 11};
        for (int what = 0; what < due.length; what++) {
            Check.due("count(" + what + ")", due[what], x.count(what));
        }
        x.blows(-9);
        Check.due("count(6)", 0, x.count(6));
        DesertIsCounted ends = Check.of("c0000;c0190;g0200;g9300;d01;");
        Check.due("all GRAINS, the first and the last, too", 1300, ends.count(2));
        Check.due("all DONE, the first and the last, too", 21, ends.count(3));
        Check.due("all BOOKS, the first and the last, too", 21, ends.count(4));
        for (int what : new int[] {-1, 7, Integer.MIN_VALUE, Integer.MAX_VALUE}) {
            Check.due("count(" + what + ")", -1, x.count(what));
        }
    }
}
