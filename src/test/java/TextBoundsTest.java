/** The document's terms and its section 1 (with promises 1 to 4): the bounds that each sentence names. */
public final class TextBoundsTest extends Sentences {
    private static final int NONE = -1, UNKNOWN = -1000000001, OUTSIDE = -1000000002, NOT = -1000000003, FULL = -1000000004;
    private static final int LEAST = Integer.MIN_VALUE, MOST = Integer.MAX_VALUE;
    private static final String EIGHT = "g0 0;g1 0;g2 0;g3 0;g4 0;g5 0;g6 0;g7 0;";

    public static void main(String[] args) {
        calls512();
        madeNew();
        terms();
        lengthOfText();
        endAndRoom();
        layers();
        goers();
        price();
        numbersAndBlanks();
        faults();
        emptyText();
        newFair();
        newFairFromAllPlaces();
        end();
    }

    private static void text(String text, int answer, int fault) {
        Run r = new Run();
        r.feed(text);
        due("fair() of '" + text + "'", r.x().fair(), answer);
        due("fault() of '" + text + "'", r.x().fault(), fault);
        due("told(3) of '" + text + "'", r.x().told(3), Math.max(0, answer));
    }

    /** A NUMBER in place of the #: its bounds, and that it is taken however it is written. */
    private static void numberIn(String form, int least, int most, int goers) {
        int at = form.indexOf('#');
        int[] taken = {least, least + 1, most - 1, most};
        for (int v : taken) {
            text(form.replace("#", Integer.toString(v)), goers, NONE);
            text(form.replace("#", String.format("%03d", v)), goers, NONE);
            text(form.replace("#", String.format("%04d", v)), -12, at);
        }
        int[] refused = {least - 1, most + 1, 999, 1000, 9999};
        for (int v : refused) {
            if (v >= 0) {
                text(form.replace("#", Integer.toString(v)), -12, at);
            }
        }
        text(form.replace("#", "0"), least == 0 ? goers : -12, least == 0 ? NONE : at);
        text(form.replace("#", "99999999999999999999"), -12, at);
        text(form.replace("#", "4294967306"), -12, at);
        text(form.replace("#", "-1"), -11, at);
        text(form.replace("#", "+1"), -11, at);
        text(form.substring(0, at), -11, at);
    }

    private static void calls512() {
        says("An object is used for at most 512 calls after it has been made");
        Run r = new Run("x10 1;g5 1;");
        int height = 0;
        while (r.calls < 510) {
            int next = height == 10 ? 0 : height + 1;
            due("car() as call " + r.calls, r.x().car(next), height);
            height = next;
        }
        due("the 511th call, told(6)", r.x().told(6), height);
        due("the 512th call, undo()", r.x().undo(), 15);
        due("calls", r.calls, 512);
    }

    private static void madeNew() {
        says("`CaptiveCar()`: No FAIR.");
        Run r = new Run();
        for (int what = 0; what < 20; what++) {
            due("told(" + what + ")", r.x().told(what), what == 13 || what == 14 ? NONE : 0);
        }
        due("fault()", r.x().fault(), NONE);
        due("speed(0)", r.x().speed(0), NOT);
        due("goer(0, 0)", r.x().goer(0, 0), UNKNOWN);
        due("front(0)", r.x().front(0), NONE);
        due("join(0)", r.x().join(0), UNKNOWN);
        due("leave(0)", r.x().leave(0), UNKNOWN);
        due("board()", r.x().board(), NOT);
        due("car(0)", r.x().car(0), NOT);
        due("alight()", r.x().alight(), NOT);
        due("off(0)", r.x().off(0), UNKNOWN);
        due("fetch(0)", r.x().fetch(0), UNKNOWN);
        due("hour(1)", r.x().hour(1), NOT);
        due("drift(1)", r.x().drift(1), NOT);
        due("undo()", r.x().undo(), NOT);
        due("let(0, 1, 0, 0)", r.x().let(0, 1, 0, 0), UNKNOWN);
        due("same(0, 1, 0)", r.x().same(0, 1, 0), UNKNOWN);
        due("judge()", r.x().judge(), NONE);
        due("goBack(0)", r.x().goBack(0), NOT);
        due("goBack(1)", r.x().goBack(1), NOT);
        due("seed(0)", r.x().seed(0), 0);
    }

    private static void terms() {
        says("What has a number has it from 0 on, as it comes.");
        Run r = new Run("x10 8;g7 1;g8 2;g9 3;").joined(2, 0);
        due("goer(0, 0)", r.x().goer(0, 0), 7);
        due("goer(2, 0)", r.x().goer(2, 0), 9);
        due("goer(3, 0)", r.x().goer(3, 0), UNKNOWN);
        due("goer(-1, 0)", r.x().goer(-1, 0), UNKNOWN);
        due("front(0)", r.x().front(0), 2);
        due("front(1)", r.x().front(1), 0);
        due("write(0, 3)", r.x().write(0, 3), 1);
        due("judge(), the first entry", r.x().judge(), 0);
        says("A SET is a whole number, bit k for k.");
        Run all = new Run("x10 8;" + EIGHT);
        due("told(8) of none", all.x().told(8), 0);
        all.joined(0);
        due("told(8), bit 0", all.x().told(8), 1);
        all.joined(7);
        due("told(8), bits 0 and 7", all.x().told(8), 129);
        all.joined(6, 5, 4, 3, 2, 1);
        due("told(8) of all", all.x().told(8), 255);
        all.x().board();
        due("told(9) of all", all.x().told(9), 255);
        all.at(1);
        for (int g = 0; g < 8; g++) {
            all.x().off(g);
        }
        due("told(10) of all", all.x().told(10), 255);
        due("told(9) of none", all.x().told(9), 0);
        says("NONE is -1.");
        due("NONE", CaptiveCar.NONE, -1);
        says("They are far below all that is counted: -1000000001 and on.");
        due("UNKNOWN", CaptiveCar.UNKNOWN, -1000000001);
        due("OUTSIDE", CaptiveCar.OUTSIDE, -1000000002);
        due("NOT", CaptiveCar.NOT, -1000000003);
        due("FULL", CaptiveCar.FULL, -1000000004);
    }

    private static void lengthOfText() {
        says("THE FAIR is told in a text (240 letters at most)");
        String long1 = "x10 1;" + " ".repeat(229) + "g7 4;";
        text(long1, 1, NONE);
        text(" ".repeat(234) + "x10 1;", 0, NONE);
        text("x10 1;" + " ".repeat(233) + "g", -11, 240);
        text("x10 1;" + " ".repeat(233) + "!", -11, 239);
        text("x10 1;" + " ".repeat(233) + "x", -13, 239);
        text("x10 1;" + " ".repeat(230) + "p100", -12, 237);
        Run r = new Run();
        r.feed(long1);
        due("told(4) at 240", r.x().told(4), 240);
        due("feed() of a 241st", r.x().feed('x'), FULL);
        due("fair(), the 241st is no part of it", r.x().fair(), 1);
        says("(a number 0 .. 255) comes behind THE TEXT: how many it has. OUTSIDE, FULL (240).");
        r = new Run();
        int[] outside = {-1, 256, LEAST, MOST, 'x' + 256, 'x' - 256};
        for (int letter : outside) {
            due("feed(" + letter + ")", r.x().feed(letter), OUTSIDE);
        }
        due("told(4) of none", r.x().told(4), 0);
        due("feed(0)", r.x().feed(0), 1);
        due("feed(255)", r.x().feed(255), 2);
        for (int i = 3; i < 240; i++) {
            r.x().feed(32);
        }
        due("feed(32), the 240th", r.x().feed(32), 240);
        due("feed(0), the 241st", r.x().feed(0), FULL);
        due("feed(255), the 241st", r.x().feed(255), FULL);
        due("feed(-1), the 241st", r.x().feed(-1), OUTSIDE);
        due("feed(256), the 241st", r.x().feed(256), OUTSIDE);
        due("told(4), full", r.x().told(4), 240);
        due("fair() of a 0 first", r.x().fair(), -11);
        due("fault()", r.x().fault(), 0);
        due("feed(32), empty again", r.x().feed(32), 1);
    }

    private static void endAndRoom() {
        says("THE END is E yards up, 10 .. 900");
        numberIn("x# 1;", 10, 900, 0);
        due("told(0)", new Run("x10 1;").x().told(0), 10);
        due("told(0)", new Run("x900 1;").x().told(0), 900);
        says("the car holds C GOERS, 1 .. 8");
        numberIn("x10 #;", 1, 8, 0);
        due("told(1)", new Run("x10 1;").x().told(1), 1);
        due("told(1)", new Run("x10 8;").x().told(1), 8);
        says("first, once");
        text("l5 2;x10 1;", -11, 0);
        text("g5 2;x10 1;", -11, 0);
        text("p5;x10 1;", -11, 0);
        text("  p5;x10 1;", -11, 2);
        text("x10 1;x10 1;", -13, 6);
        text("x10 1;g1 1; x20 1;", -13, 12);
    }

    private static void layers() {
        says("6 LAYERS at most, rising");
        String six = "x10 1;l1 2;l2 3;l3 4;l4 5;l5 6;l900 60;";
        text(six, 0, NONE);
        due("told(2)", new Run(six).x().told(2), 6);
        due("told(2) of none", new Run("x10 1;").x().told(2), 0);
        due("speed(5), the fifth", new Run(six).x().speed(5), 6);
        due("speed(900), the sixth", new Run(six).x().speed(900), 60);
        text("x10 1;l1 2;l2 3;l3 4;l4 5;l5 6;l6 7;l7 8;", -13, 36);
        text("x10 1;l1 2;l2 3;l3 4;l4 5;l5 6;l6 7;l", -13, 36);
        text("x10 1;l1 2;l2 3;l3 4;l4 5;l5 6;l6 7;g1 1;l1 2;", -13, 41);
        says("from Y yards on, 1 .. 900");
        numberIn("x10 1;l# 2;", 1, 900, 0);
        due("speed(0) of l1", new Run("x10 1;l1 9;").x().speed(0), 1);
        due("speed(1) of l1", new Run("x10 1;l1 9;").x().speed(1), 9);
        due("speed(899) of l900", new Run("x10 1;l900 9;").x().speed(899), 1);
        due("speed(900) of l900", new Run("x10 1;l900 9;").x().speed(900), 9);
        says("time goes G times, 2 .. 60; below all 1 time");
        numberIn("x10 1;l5 #;", 2, 60, 0);
        due("speed(5) of 2", new Run("x10 1;l5 2;").x().speed(5), 2);
        due("speed(5) of 60", new Run("x10 1;l5 60;").x().speed(5), 60);
        due("speed(4)", new Run("x10 1;l5 60;").x().speed(4), 1);
    }

    private static void goers() {
        says("8 GOERS at most");
        text("x10 1;" + EIGHT, 8, NONE);
        text("x10 1;" + EIGHT + "g0 0;", -13, 46);
        text("x10 1;" + EIGHT + "g", -13, 46);
        text("x10 1;" + EIGHT + "p9; g", -13, 50);
        due("goer(7, 0)", new Run("x10 1;" + EIGHT).x().goer(7, 0), 7);
        due("goer(8, 0)", new Run("x10 1;" + EIGHT).x().goer(8, 0), UNKNOWN);
        due("goer(0, 0) of none", new Run("x10 1;").x().goer(0, 0), UNKNOWN);
        says("A YEARS old, 0 .. 99");
        numberIn("x10 1;g# 0;", 0, 99, 1);
        due("goer(0, 1) of 0", new Run("x10 1;g0 0;").x().goer(0, 1), 0);
        due("goer(0, 1) of 99", new Run("x10 1;g99 0;").x().goer(0, 1), 9900);
        says("TRADE T, 0 .. 4");
        numberIn("x10 1;g0 #;", 0, 4, 1);
        due("goer(0, 2) of 0", new Run("x10 1;g9 0;").x().goer(0, 2), 0);
        due("goer(0, 2) of 4", new Run("x10 1;g9 4;").x().goer(0, 2), 4);
    }

    private static void price() {
        says("PRICE P, 1 .. 99; 12 untold; once");
        numberIn("x10 1;p#;", 1, 99, 0);
        text("x10 1;p5;p5;", -13, 9);
        text("x10 1;p5;g1 1;p", -13, 14);
        due("told(15) of 1", new Run("x10 1;g0 0;p1;").joined(0).x().told(15), 1);
        due("told(15) of 99", new Run("x10 1;p99;g0 0;").joined(0).x().told(15), 99);
        due("told(15) untold", new Run("x10 1;g0 0;").joined(0).x().told(15), 12);
        due("told(15), untold behind a fair of 99", new Run("x10 1;g0 0;p99;", "x10 1;g0 0;").joined(0).x().told(15), 12);
    }

    private static void numbersAndBlanks() {
        says("NUMBERS have one to three figures");
        text("x010 001;g9 4;g09 04;g009 004;", 3, NONE);
        text("x10 1;g0009 4;", -12, 7);
        text("x10 1;g0000 4;", -12, 7);
        text("x10 ;", -11, 4);
        text("x;", -11, 1);
        says("a word is one letter");
        text("xx10 1;", -11, 1);
        text("x10 1;gg1 1;", -11, 7);
        text("x10 1;pp1;", -11, 7);
        text("x10 1;lg1 2;", -11, 7);
        says("blanks (32) may stand anywhere but within NUMBERS");
        text("   x   10   1   ;   g   9   4   ;   p   5   ;   l   3   4   ;   ", 1, NONE);
        text("x10 1;g9 4;p5;l3 4;", 1, NONE);
        text("x1 0 1;", -12, 1);
        text("x10 1;g1 2 3;", -11, 11);
        text("x10 1;p1 2;", -11, 9);
        int[] others = {0, 9, 10, 13, 31, 33, 160, 255};
        for (int letter : others) {
            text((char) letter + "x10 1;", -11, 0);
            text("x" + (char) letter + "10 1;", -11, 1);
            text("x10" + (char) letter + "1;", -11, 3);
            text("x10 1" + (char) letter + ";", -11, 5);
            text("x10 1;" + (char) letter, -11, 6);
        }
        says("two NUMBERS side by side need one");
        text("x101;", -11, 4);
        text("x10 1;", 0, NONE);
        text("x9008;", -12, 1);
        text("x10 1;g04;", -11, 9);
        text("x10 1;l52;", -11, 9);
        text("x10,1;", -11, 3);
    }

    private static void faults() {
        says("at the first letter that has one (the end at the text's length), of these the least");
        text("x", -11, 1);
        text("x10", -11, 3);
        text("x10 ", -11, 4);
        text("x10 1", -11, 5);
        text("x10 1 ", -11, 6);
        text("x10 1;l", -11, 7);
        text("x10 1;l5 ", -11, 9);
        text("x10 1;g5 4", -11, 10);
        text("x10 1;p ", -11, 8);
        text("x9", -12, 1);
        text("x9z", -12, 1);
        text("x9 0;", -12, 1);
        text("x10 0 z", -12, 4);
        text("x10 1;l5 2;l5 99;", -14, 12);
        text("x10 1;l5 2;l5", -14, 12);
        text("x10 1;l5 2;l 0 2;", -12, 13);
        text("x10 1;l5 2;l0005 2;", -12, 12);
        text("x10 1;l5 2;l 901 2;", -12, 13);
        text("x10 1;p5p", -11, 8);
        text("x10 1;p5 x", -11, 9);
        text("x10x", -11, 3);
        text("x10 1;z;x", -11, 6);
        says("1 it cannot stand there (a letter that is no word, another word first than 'x')");
        for (int letter = 0; letter < 256; letter++) {
            boolean word = letter == 'l' || letter == 'g' || letter == 'p';
            if (letter != ' ') {
                text("" + (char) letter, -11, letter == 'x' ? 1 : 0);
                text("x10 1;" + (char) letter, letter == 'x' ? -13 : -11, word ? 7 : 6);
                text("x10 1" + (char) letter, letter == ';' ? 0 : letter >= '0' && letter <= '9' ? -12 : -11,
                    letter == ';' ? NONE : letter >= '0' && letter <= '9' ? 4 : 5);
            }
        }
        text("x10 1 2;", -11, 6);
        text("x10 1 9999;", -11, 6);
        text("x10 1;;", -11, 6);
        text(";x10 1;", -11, 0);
        text("x10 1;7;", -11, 6);
        says("2 a NUMBER of four figures or more, or out of its bounds (at its first)");
        text("x0100 1;", -12, 1);
        text("x   1000 1;", -12, 4);
        text("x10   9;", -12, 6);
        text("x10 1;g   100 4;", -12, 10);
        text("x10 1;g1   5;", -12, 11);
        says("3 'x', 'p' again, a seventh 'l', a ninth 'g' (at it)");
        text("x10 1;  x;", -13, 8);
        text("x10 1;p1;  pz", -13, 11);
        text("x10 1;l1 2;l2 2;l3 2;l4 2;l5 2;l6 2;  l3 2;", -13, 38);
        text("x10 1;" + EIGHT + "  g100 9;", -13, 48);
        says("4 a Y that is not above the one ahead (at the Y)");
        text("x10 1;l5 2;l6 2;", 0, NONE);
        text("x10 1;l5 2;l5 2;", -14, 12);
        text("x10 1;l5 2;l4 2;", -14, 12);
        text("x10 1;l5 2;  l  5 2;", -14, 16);
        text("x10 1;l899 2;l900 2;", 0, NONE);
        text("x10 1;l900 2;l900 2;", -14, 14);
        text("x10 1;l1 2;l1 2;", -14, 12);
        text("x10 1;l5 2;l9 2;l7 2;", -14, 17);
        text("x10 1;l5 2;g1 1;p3;l5 3;", -14, 20);
    }

    private static void emptyText() {
        says("An empty text (or one of blanks alone): no FAIR.");
        for (int blanks = 0; blanks <= 240; blanks += 60) {
            Run r = new Run("x20 2;l7 3;g6 1;p4;", "x10 1;l5 2;g5 2;p3;").boarded(0).at(5).hours(3);
            r.x().see(1, 1, true);
            r.x().keep(1);
            r.x().car(1);
            r.feed(" ".repeat(blanks));
            due("told(4)", r.x().told(4), blanks);
            due("fair() of blanks", r.x().fair(), 0);
            due("fault()", r.x().fault(), NONE);
            for (int what = 0; what < 20; what++) {
                due("told(" + what + ")", r.x().told(what), what == 13 || what == 14 ? NONE : 0);
            }
            due("speed(0)", r.x().speed(0), NOT);
            due("board()", r.x().board(), NOT);
            due("alight()", r.x().alight(), NOT);
            due("hour(1)", r.x().hour(1), NOT);
            due("drift(1)", r.x().drift(1), NOT);
            due("car(0)", r.x().car(0), NOT);
            due("car(1)", r.x().car(1), OUTSIDE);
            due("goer(0, 0)", r.x().goer(0, 0), UNKNOWN);
            due("goBack(1)", r.x().goBack(1), NOT);
            due("undo()", r.x().undo(), NOT);
        }
        text("          x10 1;", 0, NONE);
    }

    private static void newFair() {
        says("THE TEXT (it is empty then, with a FAULT, too) becomes THE FAIR");
        Run r = new Run("x10 1;g5 2;");
        due("told(4)", r.x().told(4), 0);
        r.feed("x9");
        due("fair() with a FAULT", r.x().fair(), -12);
        due("told(4) behind a FAULT", r.x().told(4), 0);
        due("feed()", r.x().feed('x'), 1);
        says("-10 less the number of its FAULT (all else is as it was)");
        r = new Run("x40 2;l5 3;g5 2;g9 4;p7;").joined(1, 0);
        r.x().leave(1);
        r.boarded(1).at(5);
        r.x().off(0);
        r.hours(4);
        r.x().see(9, 2, true);
        r.x().feel(9, 0);
        r.x().write(1, 9);
        r.x().seed(77);
        int[] is = new int[20];
        for (int what = 0; what < 20; what++) {
            is[what] = r.x().told(what);
        }
        String[] faulty = {"!", "x9 1;g1 1;", "x20 3;x", "x20 3;l3 2;l3", "x20 3;g7 1;p9"};
        int[] answers = {-11, -12, -13, -14, -11};
        for (int i = 0; i < faulty.length; i++) {
            r.feed(faulty[i]);
            due("fair() of " + faulty[i], r.x().fair(), answers[i]);
            for (int what = 0; what < 20; what++) {
                due("told(" + what + ") behind " + faulty[i], r.x().told(what), is[what]);
            }
            due("speed(5)", r.x().speed(5), 3);
            due("goer(0, 1)", r.x().goer(0, 1), 512);
            due("goer(1, 2)", r.x().goer(1, 2), 4);
            due("seed(77)", r.x().seed(77), 77);
        }
        due("undo()", r.x().undo(), is[19] - 1);
        // Nothing of a text with a FAULT, nor of the fair before the last, is in the next one.
        Run often = new Run("x20 2;l7 3;l8 4;g6 1;g7 1;p4;", "x30 3;l1 2;p5;g1 1;");
        due("fair(), the third", often.feed("x40 4;p6;g5 5;").x().fair(), -12);
        due("fair(), the fourth", often.feed("x50 5;l9 9;l10 10;l11 11;g8 3;g9 4;g10 4;p7;!").x().fair(), -11);
        due("fair(), the fifth", often.feed("x60 6;l2 8;p8;g4 2;").x().fair(), 1);
        int[] fifth = {60, 6, 1, 1};
        for (int what = 0; what < 4; what++) {
            due("told(" + what + ") of the fifth", often.x().told(what), fifth[what]);
        }
        due("speed(900) of the fifth", often.x().speed(900), 8);
        due("goer(0, 1) of the fifth", often.x().goer(0, 1), 400);
        due("goer(1, 1) of the fifth", often.x().goer(1, 1), UNKNOWN);
        due("told(15) of the fifth", often.joined(0).x().told(15), 8);
        due("fair(), the sixth", often.feed("x70 7;g3 1;").x().fair(), 1);
        due("told(2) of the sixth", often.x().told(2), 0);
        due("told(15) of the sixth", often.joined(0).x().told(15), 12);
        says("The letter of the FAULT of the latest fair(); NONE.");
        Run f = new Run();
        due("fault() ahead of all", f.x().fault(), NONE);
        f.feed("!");
        due("fault() ahead of fair()", f.x().fault(), NONE);
        f.x().fair();
        due("fault()", f.x().fault(), 0);
        f.feed("x10 1;");
        due("fault() of the latest fair() yet", f.x().fault(), 0);
        f.x().fair();
        due("fault() of one without", f.x().fault(), NONE);
        f.feed("x10 1;?");
        f.x().fair();
        due("fault(), the sixth", f.x().fault(), 6);
        f.x().fair();
        due("fault() of an empty text", f.x().fault(), NONE);
        says("nothing SEEN, FELT, no BOOK; IMAGES, what could be undone are gone; THE SEED stays");
        Run n = new Run("x10 2;g5 2;g6 1;").boarded(0).joined(1).at(3).hours(2);
        n.x().see(9, 2, true);
        n.x().feel(9, 0);
        n.x().write(0, 9);
        n.x().keep(0);
        n.x().keep(1);
        n.at(0);
        n.x().seed(MOST);
        n.feed("x10 2;g5 2;g6 1;");
        due("fair()", n.x().fair(), 2);
        int[] anew = {10, 2, 0, 2, 0, 0, 0, 0, 0, 0, 0, 0, 0, 0, 1, 0, 0, 0, 0, 0};
        for (int what = 0; what < 20; what++) {
            due("told(" + what + ")", n.x().told(what), anew[what]);
        }
        due("laws(0)", n.x().laws(0), 53100);
        due("ends(0)", n.x().ends(0), 900);
        due("judge()", n.x().judge(), NONE);
        due("undo()", n.x().undo(), NOT);
        due("goBack(0)", n.x().goBack(0), NOT);
        due("goBack(1)", n.x().goBack(1), NOT);
        due("goer(0, 1)", n.x().goer(0, 1), 500);
        due("goer(0, 3)", n.x().goer(0, 3), 0);
        due("goer(0, 5)", n.x().goer(0, 5), 0);
        due("goer(1, 5)", n.x().goer(1, 5), 0);
        due("front(0)", n.x().front(0), NONE);
        due("seed(0)", n.x().seed(0), MOST);
    }

    /** From a fair with GOERS at each of the places, a second time with the same text, then with one of more and of fewer. */
    private static void newFairFromAllPlaces() {
        says("(HOUR 0, all on the ground, as told, THE CAR at 0, nothing GOT;");
        String text = "x40 2;l5 3;g5 1;g9 4;g7 3;g1 2;p7;";
        int[][] texts = {{5, 1}, {9, 4}, {7, 3}, {1, 2}};
        Run r = new Run(text).boarded(0, 1, 2).at(5).hours(30);
        r.x().off(0);
        r.at(40).hours(500);
        int[] places = {3, 2, 1, 0};
        for (int g = 0; g < 4; g++) {
            due("goer(" + g + ", 5) ahead", r.x().goer(g, 5), places[g]);
        }
        due("told(11) ahead", r.x().told(11), 14);
        due("fair()", r.feed(text).x().fair(), 4);
        allAsTold(r, texts);
        due("told(6)", r.x().told(6), 0);
        r.boarded(3, 2).at(40).hours(7);
        r.x().off(3);
        due("fair() of one GOER", r.feed("x40 2;l5 3;g6 4;").x().fair(), 1);
        allAsTold(r, new int[][] {{6, 4}});
        due("fair() of four again", r.feed(text).x().fair(), 4);
        allAsTold(r, texts);
    }

    private static void allAsTold(Run r, int[][] goers) {
        for (int what : new int[] {5, 6, 7, 8, 9, 10, 11, 12, 15, 19}) {
            due("told(" + what + ")", r.x().told(what), 0);
        }
        for (int g = 0; g < goers.length; g++) {
            int[] fresh = {goers[g][0], goers[g][0] * 100, goers[g][1], 0, 0, 0, 0};
            for (int what = 0; what < fresh.length; what++) {
                due("goer(" + g + ", " + what + ")", r.x().goer(g, what), fresh[what]);
            }
            due("front(" + g + ")", r.x().front(g), NONE);
        }
    }
}
