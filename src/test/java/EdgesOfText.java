/** Boundary cases of THE TEXT, by promise 2. */
final class EdgesOfText {
    private static final String LETTERS = "cgwerfd";
    private static final int[] DIGITS_BEHIND = {4, 4, 1, 1, 1, 0, 2};

    private EdgesOfText() {
    }

    static void all() {
        howManyAndRefusals();
        oneAtLeast();
        aCorporalMore();
        grainsOfADip();
        winds();
        whoRests();
        theFlood();
        days();
        everyByte();
        justAsManyDigits();
        thePlaceOfTheByte();
        thePlaceOfTheStatement();
        oneBehindTheOther();
        withOneNothing();
        theRowStays();
    }

    private static void textDue(String text, int want) {
        answerDue(new Run(), text, want);
    }

    private static Run answerDue(Run x, String text, int want) {
        x.write(0, text);
        Check.due("desert of \"" + text + "\"", String.valueOf(want), x.answer("desert(0)"));
        return x;
    }

    private static void howManyAndRefusals() {
        Edge.of(2, "The text in SHELF d: how many STATEMENTS; the FAULT. -1, -11, -12 (no ROW of bytes).");
        textDue("w0;", 1);
        textDue("w0;f;", 2);
        textDue("f;".repeat(50), 50);
        Run x = new Run().write(0, "f;").write(7, "f;").due("desert(0)", 1).due("desert(7)", 1);
        for (int bad : new int[] {-1, 8, Integer.MIN_VALUE, Integer.MAX_VALUE}) {
            x.due("desert(" + bad + ")", -1);
        }
        x.due("desert(1)", -11).does("keep(1, 1, 0, 0)").due("desert(1)", -12);
        for (int sort = 1; sort <= 2; sort++) {
            x.tell(2, sort, 'f', ';').due("desert(2)", -12).tell(2, sort).due("desert(2)", -12);
        }
        x.tell(2, 0, 'f', ';').due("desert(2)", 1).does("keep(2, 0, 0, 0)").due("desert(2)", -11);
    }

    private static void oneAtLeast() {
        Edge.ofTerms("THE TEXT of a DESERT stands in a ROW of bytes on a SHELF: STATEMENTS, each with \";\" behind, one at least:");
        textDue("", -1000);
        textDue(";", -1000);
        textDue("f", -1001);
        textDue("f;", 1);
        textDue("f;;", -1002);
        textDue("f;f", -1003);
        textDue("f;f;", 2);
        textDue("w1", -1002);
        textDue("w1;e1", -1005);
    }

    private static void aCorporalMore() {
        Edge.ofTerms("\"c\" KIND, FIGURE, AT, WAY (a digit each): a CORPORAL more;");
        Run x = answerDue(new Run(), "c0000;c7991;", 2);
        int[][] due = {{0, 0, 0, 0, 0, 0}, {7, 9, 9, 1, 0, 0}};
        for (int c = 0; c < 2; c++) {
            for (int what = 0; what < 6; what++) {
                x.due("corporal(" + c + ", " + what + ")", due[c][what]);
            }
        }
        answerDue(x, "c5371;", 1).due("count(0)", 3).due("corporal(2, 0)", 5).due("corporal(2, 1)", 3);
        x.due("corporal(2, 2)", 7).due("corporal(2, 3)", 1);
        textDue("c8000;", -2000);
        textDue("c9000;", -2000);
        textDue("c0002;", -2000);
        textDue("c0009;", -2000);
    }

    private static void grainsOfADip() {
        Edge.ofTerms("\"g\" a DIP (a digit), GRAINS (3 digits; nothing of it is DONE then);");
        Run x = Run.of("c0900;c0990;d01;");
        answerDue(x, "g0000;", 1).due("dip(0, 0)", 0).due("dip(0, 1)", 0).due("dip(9, 1)", 19);
        answerDue(x, "g9999;", 1).due("dip(9, 0)", 999).due("dip(9, 1)", 0);
        answerDue(x, "g9001;g0010;g5100;", 3).due("dip(9, 0)", 1).due("dip(0, 0)", 10).due("dip(5, 0)", 100);
        x.due("count(4)", 38);
    }

    private static void winds() {
        Edge.ofTerms("\"w\" WIND (a digit) to greater DIPS; \"e\" likewise to lesser ones;");
        Run x = answerDue(new Run(), "w9;", 1).due("count(6)", 18);
        answerDue(x, "w0;", 1).due("count(6)", 9);
        answerDue(x, "e9;", 1).due("count(6)", 0);
        answerDue(x, "e0;", 1).due("count(6)", 9);
        answerDue(x, "w9;e1;", 2).due("count(6)", 8);
        answerDue(x, "e9;w1;", 2).due("count(6)", 10);
    }

    private static void whoRests() {
        Edge.ofTerms("\"r\" a CORPORAL (a digit): he RESTS, or, told again, not;");
        Run x = Run.of("c0000;c0000;c0000;c0000;c0000;c0000;");
        answerDue(x, "r0;r5;", 2).due("count(5)", 33);
        answerDue(x, "r0;", 1).due("count(5)", 32);
        answerDue(x, "r5;r5;r5;", 3).due("count(5)", 0);
        answerDue(x, "r6;", -2000);
        answerDue(x, "r9;", -2000).due("count(5)", 0);
        textDue("r0;", -2000);
        textDue("c0000;r0;", 2);
        textDue("c0000;r1;", -2006);
    }

    private static void theFlood() {
        Edge.ofTerms("\"f\" the FLOOD: nothing is DONE, no BOOK has anything;");
        Run x = Run.of("c0000;c0950;w2;r1;d01;r1;d01;");
        x.due("count(3)", 39).due("count(4)", 39);
        answerDue(x, "f;", 1).due("count(3)", 0).due("count(4)", 0).due("corporal(0, 4)", 0).due("corporal(1, 4)", 0);
        x.due("count(0)", 2).due("count(1)", 2).due("count(2)", 1000).due("dip(0, 0)", 96).due("count(6)", 11);
        x.due("corporal(0, 2)", 0).due("corporal(1, 2)", 5).due("count(5)", 0);
        textDue("f;", 1);
        answerDue(new Run(), "c0000;c0050;d01;r1;f;", 5).due("corporal(1, 4)", 0).due("corporal(1, 5)", 1).due("dip(5, 1)", 0);
    }

    private static void days() {
        Edge.ofTerms("\"d\" DAYS (2 digits, 1 .. 60).");
        textDue("d00;", -2000);
        textDue("d61;", -2000);
        textDue("d99;", -2000);
        answerDue(new Run(), "d01;", 1).due("count(1)", 1);
        answerDue(new Run(), "d10;", 1).due("count(1)", 10);
        answerDue(Run.of("c0000;"), "d60;", 1).due("count(1)", 60).due("count(4)", 600);
    }

    /** With each byte that there is: as a letter, as a digit, behind a statement. */
    private static void everyByte() {
        Edge.ofTerms("FAULT: kind 1 the place of the first byte with which no DESERT can go on");
        for (int sign = -128; sign <= 127; sign++) {
            boolean letter = sign > 0 && LETTERS.indexOf(sign) >= 0;
            byteDue(letter ? -1001 : -1000, sign);
            boolean digit = sign >= '0' && sign <= '9';
            byteDue(digit ? 1 : -1001, 'w', sign, ';');
            byteDue(digit ? 1 : -1001, 'e', sign, ';');
            byteDue(digit ? -1002 : -1001, 'r', sign);
            byteDue(sign == ';' ? 1 : -1002, 'w', '3', sign);
            byteDue(sign == ';' ? 1 : -1001, 'f', sign);
            byteDue(digit ? sign <= '7' ? 1 : -2000 : -1001, 'c', sign, '0', '0', '0', ';');
            byteDue(digit ? 1 : -1002, 'c', '0', sign, '0', '0', ';');
            byteDue(digit ? 1 : -1003, 'c', '0', '0', sign, '0', ';');
            byteDue(digit ? sign <= '1' ? 1 : -2000 : -1004, 'c', '0', '0', '0', sign, ';');
            byteDue(digit ? 1 : -1001, 'g', sign, '0', '0', '0', ';');
            byteDue(digit ? 1 : -1002, 'g', '0', sign, '0', '0', ';');
            byteDue(digit ? 1 : -1003, 'g', '0', '0', sign, '0', ';');
            byteDue(digit ? 1 : -1004, 'g', '0', '0', '0', sign, ';');
            byteDue(digit ? sign <= '5' ? 1 : -2000 : -1001, 'd', sign, '9', ';');
            byteDue(digit ? sign == '0' ? 1 : -2000 : -1002, 'd', '6', sign, ';');
            byteDue(digit ? sign == '0' ? -2000 : 1 : -1002, 'd', '0', sign, ';');
        }
    }

    private static void byteDue(int want, int... bytes) {
        StringBuilder name = new StringBuilder("desert of bytes");
        for (int sign : bytes) {
            name.append(' ').append(sign);
        }
        Check.due(name.toString(), String.valueOf(want), new Run().tell(0, 0, bytes).answer("desert(0)"));
    }

    private static void justAsManyDigits() {
        Edge.ofTerms("numbers in THE TEXT have just as many digits as told;");
        for (int i = 0; i < DIGITS_BEHIND.length; i++) {
            String letter = LETTERS.substring(i, i + 1);
            for (int digits = 0; digits <= 5; digits++) {
                String statement = letter + "0001".substring(4 - Math.min(4, digits)) + (digits == 5 ? "0" : "");
                int told = DIGITS_BEHIND[i];
                // A CORPORAL that RESTS must be there; one is with the first statement.
                String text = "c0000;" + statement.replace("r1", "r0") + ";";
                textDue(text, digits == told ? 2 : -1006 - 1 - Math.min(digits, told));
            }
        }
        textDue("d1;", -1002);
        textDue("d001;", -1003);
        textDue("g01;", -1003);
        textDue("g01000;", -1005);
        textDue("w-1;", -1001);
        textDue("w+1;", -1001);
        textDue("d 1;", -1001);
    }

    private static void thePlaceOfTheByte() {
        Edge.ofTerms("(the end, if something lacks): -1000 less the place;");
        String whole = "c0000;g0000;w0;e0;r0;f;d01;";
        for (int end = 0; end < whole.length(); end++) {
            boolean full = end > 0 && whole.charAt(end - 1) == ';';
            textDue(whole.substring(0, end), full ? whole.substring(0, end).split(";").length : -1000 - end);
        }
        textDue(whole, 7);
        for (int place = 0; place < whole.length(); place++) {
            textDue(whole.substring(0, place) + "x" + whole.substring(place + 1), -1000 - place);
        }
        textDue("f;".repeat(49) + "w0", -1100);
        textDue("f;".repeat(49) + "f", -1099);
        textDue("f;".repeat(49) + "fx", -1099);
        textDue("f;".repeat(49) + "x;", -1098);
        textDue("f;".repeat(48) + "d011", -1099);
    }

    private static void thePlaceOfTheStatement() {
        Edge.ofTerms("else kind 2 the place of the letter of the first STATEMENT that is not as it must be "
            + "(a number out of range, no such one, DAY above 999, no room): -2000 less the place.");
        // Kind 1 is told ahead of kind 2, wherever it is.
        textDue("c8000;x", -1006);
        textDue("c8000;f", -1007);
        textDue("d00;d", -1005);
        textDue("r0;c000;", -1007);
        textDue("c8000", -1005);
        textDue("c0000;c0008;", -2006);
        textDue("f;f;f;d00;", -2006);
        textDue("f;d61;r5;c8000;", -2002);
        textDue("f;".repeat(48) + "d00;", -2096);
        textDue("f;".repeat(48) + "r0;", -2096);
        textDue("c0000;".repeat(6), 6);
        textDue("c0000;".repeat(7), -2036);
        textDue("c0000;".repeat(6) + "c8000;", -2036);
        textDue("c0000;".repeat(6) + "r6;", -2036);
        textDue("c0000;".repeat(6) + "r5;", 7);
        textDue("d60;".repeat(16) + "d39;", 17);
        textDue("d60;".repeat(16) + "d40;", -2064);
        textDue("d60;".repeat(16) + "d39;d01;", -2068);
        textDue("d60;".repeat(17), -2064);
        Run x = EdgesOfDesert.lastDay("f;").due("count(1)", 999);
        answerDue(x, "f;d01;", -2002).due("count(1)", 999);
        answerDue(x, "f;", 1).due("count(1)", 999);
        x = Run.of("c0000;c0000;c0000;c0000;c0000;");
        answerDue(x, "w1;c0000;", 2).due("count(0)", 6);
        answerDue(x, "w2;c0000;", -2003).due("count(0)", 6).due("count(6)", 10);
    }

    private static void oneBehindTheOther() {
        Edge.ofTerms("STATEMENTS are tried one behind the other, each on what those ahead of it made, "
            + "and the first that can't be done so is told (kind 2).");
        textDue("c0000;r0;", 2);
        textDue("r0;c0000;", -2000);
        textDue("c0000;r0;r1;c0000;", -2009);
        textDue("c0000;r0;c0000;r1;", 4);
        answerDue(new Run(), "c0000;d01;f;d02;", 4).due("count(4)", 20).due("dip(0, 1)", 20).due("count(1)", 3);
        answerDue(new Run(), "c0000;d02;g0050;d01;", 4).due("count(4)", 30).due("dip(0, 1)", 10).due("dip(0, 0)", 50);
        answerDue(new Run(), "w1;d01;w9;d01;e1;d01;", 6).due("dip(0, 0)", 100 - 1 - 9 + 1).due("count(6)", 8);
        answerDue(new Run(), "c0000;r0;d09;r0;d01;", 5).due("count(4)", 10);
        answerDue(new Run(), "d01;c6000;d01;", 3).due("count(4)", 4);
    }

    private static void withOneNothing() {
        Edge.ofTerms("Without FAULT all of it comes, with one nothing.");
        String ahead = "c0500;c2391;c5050;w3;d05;r1;";
        String before = Run.of(ahead).write(0, "c4000;").all();
        String[] texts = {"c4000;g0007;w9;r0;f;d10;d00;", "c4000;g0007;w9;r0;f;d10;f", "r1;", "d01;c0002;", "w1;r3;", "g0001;e1;x",
            "f;d60;d61;", "c0000;c0000;c0000;c0000;"};
        int[] due = {-2024, -1025, 1, -2004, -2003, -1009, -2006, -2018};
        for (int i = 0; i < texts.length; i++) {
            Run x = answerDue(Run.of(ahead), texts[i], due[i]).write(0, "c4000;");
            Check.due("something of \"" + texts[i] + "\" came", String.valueOf(due[i] > 0), String.valueOf(!before.equals(x.all())));
        }
        Run x = answerDue(Run.of(ahead), "c4000;g0007;w9;r0;f;d10;", 6);
        x.due("count(0)", 4).due("dip(9, 1)", 0).due("count(6)", 18).due("count(5)", 3).due("count(1)", 15);
    }

    private static void theRowStays() {
        Edge.ofTerms("The ROW of a text, and what is taken from a SHELF, stay there;");
        for (String text : new String[] {"f;c0000;d01;", "f;c0000;d00;", "f;c0000;d0", ""}) {
            Run x = new Run().write(3, text).does("desert(3)");
            for (int i = 0; i < text.length(); i++) {
                x.due("element(3, " + i + ")", text.charAt(i));
            }
            x.due("element(3, " + text.length() + ")", "IllegalStateException").due("cost(3)", -12);
        }
    }
}
