/** Compares answers with those that are due, tells the others, and ends with exit code 1 if there was one. */
final class Check {
    private static int wrong = 0;
    private static int asked = 0;
    private static String promise = "";

    private Check() {
    }

    static void promise(int number, String name) {
        promise = "promise " + number + " (" + name + ")";
    }

    static void about(String what) {
        promise = what;
    }

    static void due(String call, long want, long got) {
        asked++;
        if (want != got) {
            wrong++;
            System.out.println(promise + ": " + call + " answered " + got + ", due is " + want);
        }
    }

    static void due(String call, String want, String got) {
        asked++;
        if (!want.equals(got)) {
            wrong++;
            System.out.println(promise + ": " + call + " answered " + got + ", due is " + want);
        }
    }

    static void end() {
        System.out.println(asked + " answers asked for, " + wrong + " not as due");
        if (wrong != 0 || asked == 0) {
            System.exit(1);
        }
    }

    /** Puts the text in a row of bytes on the shelf. */
    static void write(DesertIsCounted x, int d, String text) {
        x.row(d, 0, text.length());
        for (int i = 0; i < text.length(); i++) {
            x.put(d, i, text.charAt(i));
        }
    }

    /** Puts the numbers in a row of the sort on the shelf. */
    static void tell(DesertIsCounted x, int d, int sort, int... numbers) {
        x.row(d, sort, numbers.length);
        for (int i = 0; i < numbers.length; i++) {
            x.put(d, i, numbers[i]);
        }
    }

    /** A new desert that a text has come over, by shelf 7, which is left with nothing. */
    static DesertIsCounted of(String... texts) {
        DesertIsCounted x = new DesertIsCounted();
        for (String text : texts) {
            write(x, 7, text);
            int answer = x.desert(7);
            if (answer < 0) {
                throw new IllegalArgumentException("the test's own text has a fault: " + text + " " + answer);
            }
        }
        x.keep(7, 0, 0, 0);
        return x;
    }

    /** A corporal comes by way of shelf 7, which is left with nothing. */
    static int come(DesertIsCounted x, int kind, int figure, int dip, int way) {
        x.keep(7, 1, kind, figure);
        int answer = x.comes(7, dip, way);
        x.keep(7, 0, 0, 0);
        return answer;
    }

    /** All that can be read of the desert without changing it, shelves included. */
    static String all(DesertIsCounted x) {
        StringBuilder all = new StringBuilder();
        for (int what = 0; what <= 6; what++) {
            all.append(x.count(what)).append(what == 6 ? '|' : ',');
        }
        for (int dip = 0; dip < 10; dip++) {
            all.append(x.dip(dip, 0)).append(',').append(x.dip(dip, 1)).append(',').append(x.dip(dip, 2)).append(' ');
        }
        for (int c = 0; c < x.count(0); c++) {
            all.append('|');
            for (int what = 0; what <= 6; what++) {
                all.append(x.corporal(c, what)).append(what == 6 ? ' ' : ',');
            }
        }
        return all.append('|').append(shelves(x)).toString();
    }

    static String shelves(DesertIsCounted x) {
        StringBuilder all = new StringBuilder();
        for (int d = 0; d < 8; d++) {
            all.append('[').append(x.cost(d)).append(' ').append(x.toss(d)).append(' ');
            for (int i = 0; i < 100; i++) {
                try {
                    all.append(x.element(d, i)).append(' ');
                } catch (IllegalStateException e) {
                    break;
                }
            }
            all.append(']');
        }
        return all.toString();
    }

    /** What element() answers, or the simple name of what it throws. */
    static String elementOf(DesertIsCounted x, int d, int i) {
        try {
            return Long.toString(x.element(d, i));
        } catch (RuntimeException e) {
            return e.getClass().getSimpleName();
        }
    }
}
