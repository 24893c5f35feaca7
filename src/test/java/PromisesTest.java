/** For each promise of the document: ordinary inputs, the edges that it names, wrong inputs. The answers due were worked out by hand. */
public final class PromisesTest {
    private static final int NONE = -1, UNKNOWN = -1000000001, OUTSIDE = -1000000002, NOT = -1000000003, FULL = -1000000004;
    private static final String FAIR = "x300 2;l50 3;l200 20;g20 1;g20 2;g24 3;g7 4;g60 0;p15;";
    private static int wrong = 0;
    private static int checks = 0;

    private static void due(int promise, String call, long got, long want) {
        checks++;
        if (got != want) {
            wrong++;
            System.out.println("promise " + promise + ": " + call + " answered " + got + ", due is " + want);
        }
    }

    private static void feed(CaptiveCar x, String text) {
        for (int i = 0; i < text.length(); i++) {
            x.feed(text.charAt(i));
        }
    }

    private static CaptiveCar fairOf(String text) {
        CaptiveCar x = new CaptiveCar();
        feed(x, text);
        x.fair();
        return x;
    }

    private static void dueText(String text, int answer, int fault) {
        CaptiveCar x = new CaptiveCar();
        feed(x, text);
        due(3, "fair() of '" + text + "'", x.fair(), answer);
        due(4, "fault() of '" + text + "'", x.fault(), fault);
        due(3, "told(4) behind fair()", x.told(4), 0);
    }

    public static void main(String[] args) {
        newObject();
        feeding();
        texts();
        fairAnew();
        told();
        speeds();
        goers();
        queue();
        boarding();
        carAndAlighting();
        offAndFetch();
        hours();
        drifts();
        undone();
        ages();
        lets();
        sames();
        waiting();
        bests();
        wasAndMeet();
        pricesAndWind();
        lawsAndYard();
        ends();
        book();
        seedsAndImages();
        System.out.println(checks + " checks, " + wrong + " wrong");
        if (wrong != 0) {
            System.exit(1);
        }
    }

    private static void newObject() {
        CaptiveCar x = new CaptiveCar();
        for (int what = 0; what < 20; what++) {
            due(1, "told(" + what + ")", x.told(what), what == 13 || what == 14 ? NONE : 0);
        }
        due(1, "speed(5)", x.speed(5), NOT);
        due(1, "speed(901)", x.speed(901), OUTSIDE);
        due(1, "goer(0, 0)", x.goer(0, 0), UNKNOWN);
        due(1, "goer(0, 9)", x.goer(0, 9), UNKNOWN);
        due(1, "front(0)", x.front(0), NONE);
        due(1, "join(0)", x.join(0), UNKNOWN);
        due(1, "leave(0)", x.leave(0), UNKNOWN);
        due(1, "board()", x.board(), NOT);
        due(1, "alight()", x.alight(), NOT);
        due(1, "car(0)", x.car(0), NOT);
        due(1, "car(1)", x.car(1), OUTSIDE);
        due(1, "off(0)", x.off(0), UNKNOWN);
        due(1, "fetch(0)", x.fetch(0), UNKNOWN);
        due(1, "hour(1)", x.hour(1), NOT);
        due(1, "hour(0)", x.hour(0), OUTSIDE);
        due(1, "drift(1)", x.drift(1), NOT);
        due(1, "drift(61)", x.drift(61), OUTSIDE);
        due(1, "undo()", x.undo(), NOT);
        due(1, "age(0, 0)", x.age(0, 0), UNKNOWN);
        due(1, "let(0, 1, 1, 0)", x.let(0, 1, 1, 0), UNKNOWN);
        due(1, "same(0, 1, 0)", x.same(0, 1, 0), UNKNOWN);
        due(1, "waits(0)", x.waits(0), UNKNOWN);
        due(1, "best(0)", x.best(0), 0);
        due(1, "best(1)", x.best(1), 0);
        due(1, "bestPrice(1, 0)", x.bestPrice(1, 0), 1);
        due(1, "bestPrice(1, 1)", x.bestPrice(1, 1), 0);
        due(1, "write(0, 1)", x.write(0, 1), UNKNOWN);
        due(1, "judge()", x.judge(), NONE);
        due(1, "tear()", x.tear(), 0);
        due(1, "fault()", x.fault(), NONE);
        due(1, "goBack(0)", x.goBack(0), NOT);
        due(1, "seed(0)", x.seed(0), 0);
    }

    private static void feeding() {
        CaptiveCar x = new CaptiveCar();
        due(2, "feed(-1)", x.feed(-1), OUTSIDE);
        due(2, "feed(256)", x.feed(256), OUTSIDE);
        due(2, "feed(0)", x.feed(0), 1);
        due(2, "feed(255)", x.feed(255), 2);
        for (int i = 3; i <= 240; i++) {
            due(2, "feed(32)", x.feed(32), i);
        }
        due(2, "feed(32), the 241st", x.feed(32), FULL);
        due(2, "feed(256), the 241st", x.feed(256), OUTSIDE);
        due(2, "told(4)", x.told(4), 240);
        due(2, "fair()", x.fair(), -11);
        due(2, "feed(32)", x.feed(32), 1);
    }

    private static void texts() {
        dueText("", 0, NONE);
        dueText("   ", 0, NONE);
        dueText("x10 1;", 0, NONE);
        dueText("x900 8;", 0, NONE);
        dueText("  x  010  001 ;  ", 0, NONE);
        dueText(FAIR, 5, NONE);
        dueText("p5;", -11, 0);
        dueText("  X10 1;", -11, 2);
        dueText("x10 1;l5 2;l6 3;l7 4;l8 5;l9 6;l10 7;", 0, NONE);
        dueText("x10 1;l5 2;l6 3;l7 4;l8 5;l9 6;l10 7;l", -13, 37);
        dueText("x10 1;g0 0;g0 0;g0 0;g0 0;g0 0;g0 0;g0 0;g0 0;", 8, NONE);
        dueText("x10 1;g0 0;g0 0;g0 0;g0 0;g0 0;g0 0;g0 0;g0 0;g0 0;", -13, 46);
        dueText("x10 1;p1;p", -13, 9);
        dueText("x10 1;p99;", 0, NONE);
        dueText("x10 1;p100;", -12, 7);
        dueText("x10 1;p0;", -12, 7);
        dueText("x10 1;x", -13, 6);
        dueText("x", -11, 1);
        dueText("x10", -11, 3);
        dueText("x10 1", -11, 5);
        dueText("x10 1  ", -11, 7);
        dueText("x9", -12, 1);
        dueText("x 901 1;", -12, 2);
        dueText("x0010 1;", -12, 1);
        dueText("x10 0001;", -12, 4);
        dueText("x10 9;", -12, 4);
        dueText("x101;", -11, 4);
        dueText("x10 1 1;", -11, 6);
        dueText("x10 1;5", -11, 6);
        dueText("x10 1;;", -11, 6);
        dueText("x10 1;a", -11, 6);
        dueText("x10 1;g x", -11, 8);
        dueText("x10x1;", -11, 3);
        dueText("x10\t1;", -11, 3);
        dueText("x1 0 1;", -12, 1);
        dueText("x10 1;g99 4;", 1, NONE);
        dueText("x10 1;g100 4;", -12, 7);
        dueText("x10 1;g99 5;", -12, 10);
        dueText("x10 1;l900 60;", 0, NONE);
        dueText("x10 1;l901 60;", -12, 7);
        dueText("x10 1;l1 61;", -12, 9);
        dueText("x10 1;l1 1;", -12, 9);
        dueText("x10 1;l0 2;", -12, 7);
        dueText("x10 1;l9 2;p3;g1 1;l9 2;", -14, 20);
        dueText("x10 1;l9 2;l8", -14, 12);
        dueText("x10 1;l9 2;l0 2;", -12, 12);
        dueText("x10 1;l9 2;l;", -11, 12);
        dueText("x99999999999999999999 1;", -12, 1);
        dueText("x10 1;" + " ".repeat(234), 0, NONE);
        dueText(" ".repeat(234) + "x10 1;", 0, NONE);
        dueText(" ".repeat(235) + "x10 1", -11, 240);
        dueText(" ".repeat(239) + "x", -11, 240);
        // Letters of a text that is gone are no part of the next one.
        CaptiveCar x = fairOf("x10 1;g3 3;");
        feed(x, "x10 1");
        due(3, "fair() without the last letter", x.fair(), -11);
        due(4, "fault()", x.fault(), 5);
        feed(x, "x10");
        due(3, "fair() of three letters", x.fair(), -11);
        due(4, "fault()", x.fault(), 3);
    }

    private static void fairAnew() {
        CaptiveCar x = fairOf(FAIR);
        x.join(1);
        x.board();
        x.hour(3);
        x.see(1, 1, true);
        x.feel(1, 1);
        x.write(0, 1);
        x.keep(0);
        x.join(0);
        x.seed(77);
        feed(x, "x9");
        due(3, "fair() with a fault", x.fair(), -12);
        due(3, "told(4)", x.told(4), 0);
        due(3, "told(0)", x.told(0), 300);
        due(3, "told(5)", x.told(5), 3);
        due(3, "told(8)", x.told(8), 1);
        due(3, "told(9)", x.told(9), 2);
        due(3, "told(16)", x.told(16), 1);
        due(3, "told(17)", x.told(17), 1);
        due(3, "told(18)", x.told(18), 1);
        due(3, "told(19)", x.told(19), 1);
        due(3, "goBack(0) in spite of the fault", x.goBack(0), 1);
        x.seed(78);
        x.car(7);
        x.hour(1);
        feed(x, "x20 3;g5 2;");
        due(3, "fair()", x.fair(), 1);
        due(4, "fault()", x.fault(), NONE);
        int[] fresh = {20, 3, 0, 1, 0, 0, 0, 0, 0, 0, 0, 0, 0, 0, 0, 0, 0, 0, 0, 0};
        for (int what = 0; what < fresh.length; what++) {
            due(3, "told(" + what + ")", x.told(what), fresh[what]);
        }
        due(3, "goBack(0)", x.goBack(0), NOT);
        due(3, "undo()", x.undo(), NOT);
        due(3, "goer(0, 1)", x.goer(0, 1), 500);
        due(3, "seed(1)", x.seed(1), 78);
        x.join(0);
        due(3, "told(15), the price untold", x.told(15), 12);
        due(3, "fair() of nothing", x.fair(), 0);
        due(3, "told(3)", x.told(3), 0);
        due(3, "board()", x.board(), NOT);
        due(3, "told(8)", x.told(8), 0);
        CaptiveCar often = fairOf("x20 3;l2 2;g5 2;p5;");
        feed(often, "x30 4;l3 9;g6 3;p6;");
        due(3, "fair(), the second", often.fair(), 1);
        due(3, "fair() of nothing, the third", often.fair(), 0);
        for (int what = 0; what < 5; what++) {
            due(3, "told(" + what + ")", often.told(what), 0);
        }
        due(3, "car(1)", often.car(1), OUTSIDE);
        feed(often, "x40 5;l1 3;g7 1;p4;");
        due(3, "fair(), the fourth", often.fair(), 1);
        due(3, "told(2)", often.told(2), 1);
        feed(often, "x50 6;g8 1;");
        due(3, "fair(), the fifth", often.fair(), 1);
        due(3, "told(2)", often.told(2), 0);
        due(3, "speed(900)", often.speed(900), 1);
        often.join(0);
        due(3, "told(15), the price untold again", often.told(15), 12);
    }

    private static void told() {
        CaptiveCar x = fairOf(FAIR);
        due(5, "told(-1)", x.told(-1), OUTSIDE);
        due(5, "told(20)", x.told(20), OUTSIDE);
        x.join(4);
        x.join(2);
        x.join(0);
        due(5, "told(8)", x.told(8), 21);
        due(5, "told(15)", x.told(15), 45);
        x.board();
        x.car(300);
        x.off(2);
        x.hour(7);
        int[] due = {300, 2, 2, 5, 0, 7, 300, 1, 1, 16, 4, 30, 7, 3, 4, 15, 0, 0, 0, 7};
        for (int what = 0; what < due.length; what++) {
            due(5, "told(" + what + ")", x.told(what), due[what]);
        }
        x.car(299);
        due(5, "told(7)", x.told(7), 0);
        CaptiveCar twins = fairOf("x10 1;g5 0;g5 0;g9 0;g9 0;");
        due(5, "told(13) of like ones", twins.told(13), 0);
        due(5, "told(14) of like ones", twins.told(14), 2);
    }

    private static void speeds() {
        CaptiveCar x = fairOf("x10 1;l1 60;l10 2;l900 7;");
        due(6, "speed(0)", x.speed(0), 1);
        due(6, "speed(1)", x.speed(1), 60);
        due(6, "speed(9)", x.speed(9), 60);
        due(6, "speed(10)", x.speed(10), 2);
        due(6, "speed(899)", x.speed(899), 2);
        due(6, "speed(900)", x.speed(900), 7);
        due(6, "speed(901)", x.speed(901), OUTSIDE);
        due(6, "speed(-1)", x.speed(-1), OUTSIDE);
        due(6, "speed(900) without layers", fairOf("x10 1;").speed(900), 1);
    }

    private static void goers() {
        CaptiveCar x = fairOf("x100 8;l10 10;g39 0;g39 1;g39 2;g39 3;g39 4;");
        due(7, "goer(5, 0)", x.goer(5, 0), UNKNOWN);
        due(7, "goer(-1, 0)", x.goer(-1, 0), UNKNOWN);
        due(7, "goer(5, 7)", x.goer(5, 7), UNKNOWN);
        due(7, "goer(4, 7)", x.goer(4, 7), OUTSIDE);
        due(7, "goer(4, -1)", x.goer(4, -1), OUTSIDE);
        due(7, "goer(4, 4) without work", x.goer(4, 4), 3);
        for (int g = 0; g < 5; g++) {
            x.join(g);
            due(7, "goer(g, 5)", x.goer(g, 5), 1);
            due(7, "goer(g, 6)", x.goer(g, 6), 0);
        }
        x.board();
        x.car(10);
        x.hour(62);
        int[] skills = {0, 6, 12, 30, 10};
        for (int g = 0; g < 5; g++) {
            due(7, "goer(" + g + ", 0)", x.goer(g, 0), 45);
            due(7, "goer(" + g + ", 1)", x.goer(g, 1), 4520);
            due(7, "goer(" + g + ", 2)", x.goer(g, 2), g);
            due(7, "goer(" + g + ", 3)", x.goer(g, 3), 620);
            due(7, "goer(" + g + ", 4)", x.goer(g, 4), skills[g]);
            due(7, "goer(" + g + ", 5)", x.goer(g, 5), 2);
            due(7, "goer(" + g + ", 6)", x.goer(g, 6), 10);
        }
        x.hour(4);
        due(7, "goer(3, 4) at 33", x.goer(3, 4), 31);
        x.hour(133);
        due(7, "goer(2, 4) at 39", x.goer(2, 4), 39);
        x.hour(500);
        due(7, "goer(2, 4) at most", x.goer(2, 4), 40);
        due(7, "goer(1, 4)", x.goer(1, 4), 69);
        due(7, "goer(3, 4), halved above 30", x.goer(3, 4), 189);
        x.off(2);
        x.car(0);
        due(7, "goer(2, 5)", x.goer(2, 5), 3);
        due(7, "goer(2, 6)", x.goer(2, 6), 10);
        due(7, "goer(1, 6)", x.goer(1, 6), 0);
        x.hour(1);
        due(7, "goer(1, 3) in the car at 0", x.goer(1, 3), 6991);
        due(7, "goer(2, 3) set down", x.goer(2, 3), 7000);
        x.alight();
        x.hour(1);
        due(7, "goer(1, 3) on the ground", x.goer(1, 3), 6991);
        due(7, "goer(1, 1) on the ground", x.goer(1, 1), 10892);
        due(7, "goer(1, 5)", x.goer(1, 5), 0);
    }

    private static void queue() {
        CaptiveCar x = fairOf(FAIR);
        due(9, "join(5)", x.join(5), UNKNOWN);
        due(9, "join(-1)", x.join(-1), UNKNOWN);
        due(9, "join(4)", x.join(4), 1);
        due(9, "join(4)", x.join(4), NOT);
        due(9, "join(1)", x.join(1), 2);
        due(9, "join(3)", x.join(3), 3);
        due(8, "front(-1)", x.front(-1), NONE);
        due(8, "front(0)", x.front(0), 4);
        due(8, "front(1)", x.front(1), 1);
        due(8, "front(2)", x.front(2), 3);
        due(8, "front(3)", x.front(3), NONE);
        due(10, "leave(5)", x.leave(5), UNKNOWN);
        due(10, "leave(-1)", x.leave(-1), UNKNOWN);
        due(10, "leave(0)", x.leave(0), NOT);
        due(10, "leave(1)", x.leave(1), 2);
        due(10, "goer(1, 5)", x.goer(1, 5), 0);
        due(8, "front(1)", x.front(1), 3);
        due(9, "join(1)", x.join(1), 3);
        due(8, "front(2)", x.front(2), 1);
        due(10, "leave(4)", x.leave(4), 2);
        due(8, "front(0)", x.front(0), 3);
        x.board();
        due(9, "join(3) in the car", x.join(3), NOT);
        due(10, "leave(3) in the car", x.leave(3), NOT);
        x.car(9);
        x.off(3);
        due(9, "join(3) set down", x.join(3), NOT);
    }

    private static void boarding() {
        CaptiveCar x = fairOf(FAIR);
        due(11, "board() of none", x.board(), 0);
        due(11, "told(19)", x.told(19), 1);
        x.join(2);
        due(11, "board()", x.board(), 1);
        x.join(4);
        x.join(0);
        due(11, "board() with room for one", x.board(), 1);
        due(11, "told(9)", x.told(9), 20);
        due(11, "told(8)", x.told(8), 1);
        due(11, "told(11)", x.told(11), 30);
        due(11, "board() without room", x.board(), 0);
        due(11, "told(11)", x.told(11), 30);
        x.car(1);
        due(11, "board() at 1", x.board(), NOT);
        CaptiveCar rich = fairOf("x10 8;g0 0;g0 0;g0 0;g0 0;g0 0;g0 0;g0 0;g0 0;p99;");
        int paid = 0;
        for (int i = 0; i < 40; i++) {
            for (int g = 0; g < 8; g++) {
                rich.join(g);
            }
            rich.board();
            paid += 792;
            due(11, "told(11)", rich.told(11), paid);
            rich.alight();
        }
    }

    private static void carAndAlighting() {
        CaptiveCar x = fairOf(FAIR);
        due(12, "car(-1)", x.car(-1), OUTSIDE);
        due(12, "car(301)", x.car(301), OUTSIDE);
        due(12, "car(0)", x.car(0), NOT);
        due(12, "car(300)", x.car(300), 0);
        due(12, "car(300)", x.car(300), NOT);
        due(12, "car(17)", x.car(17), 300);
        due(12, "told(6)", x.told(6), 17);
        due(12, "told(5)", x.told(5), 0);
        due(13, "alight() at 17", x.alight(), NOT);
        due(12, "car(0)", x.car(0), 17);
        due(13, "alight() of none", x.alight(), 0);
        x.join(0);
        x.join(1);
        x.board();
        due(13, "alight()", x.alight(), 2);
        due(13, "told(9)", x.told(9), 0);
        due(13, "goer(1, 5)", x.goer(1, 5), 0);
    }

    private static void offAndFetch() {
        CaptiveCar x = fairOf(FAIR);
        x.join(0);
        x.join(1);
        x.join(2);
        x.board();
        due(14, "off(5)", x.off(5), UNKNOWN);
        due(14, "off(-1)", x.off(-1), UNKNOWN);
        due(14, "off(0) at 0", x.off(0), NOT);
        x.car(1);
        due(14, "off(2) in the queue", x.off(2), NOT);
        due(14, "off(3) on the ground", x.off(3), NOT);
        due(14, "off(0)", x.off(0), 1);
        due(14, "off(0) again", x.off(0), NOT);
        due(14, "told(10)", x.told(10), 1);
        due(15, "fetch(5)", x.fetch(5), UNKNOWN);
        due(15, "fetch(-1)", x.fetch(-1), UNKNOWN);
        due(15, "fetch(1) in the car", x.fetch(1), NOT);
        x.car(2);
        due(15, "fetch(0) from 2", x.fetch(0), NOT);
        x.car(1);
        due(15, "fetch(0)", x.fetch(0), 2);
        due(15, "goer(0, 5)", x.goer(0, 5), 2);
        x.off(0);
        x.car(0);
        due(15, "fetch(0) from 0", x.fetch(0), NOT);
        x.board();
        due(15, "told(9)", x.told(9), 6);
        x.car(2);
        due(15, "fetch(0), full but not there", x.fetch(0), NOT);
        x.car(1);
        due(15, "fetch(0), full", x.fetch(0), FULL);
        due(15, "told(10)", x.told(10), 1);
    }

    private static void hours() {
        CaptiveCar x = fairOf(FAIR);
        due(16, "hour(0)", x.hour(0), OUTSIDE);
        due(16, "hour(501)", x.hour(501), OUTSIDE);
        due(16, "hour(1)", x.hour(1), 1);
        due(16, "hour(500)", x.hour(500), 501);
        x.join(0);
        x.join(1);
        x.board();
        x.car(50);
        x.off(0);
        x.car(200);
        x.hour(2);
        due(16, "goer(0, 1)", x.goer(0, 1), 2507);
        due(16, "goer(1, 1)", x.goer(1, 1), 2541);
        due(16, "goer(2, 1)", x.goer(2, 1), 2903);
        due(16, "goer(0, 3)", x.goer(0, 3), 6);
        due(16, "goer(1, 3)", x.goer(1, 3), 40);
        due(16, "goer(2, 3)", x.goer(2, 3), 0);
        CaptiveCar long1 = fairOf("x10 1;");
        for (int i = 1; i < 200; i++) {
            due(16, "hour(500)", long1.hour(500), 500 * i);
        }
        due(16, "hour(499)", long1.hour(499), 99999);
        due(16, "hour(500) at 99999", long1.hour(500), 100499);
        due(16, "hour(1) at 100499", long1.hour(1), FULL);
        due(16, "hour(0) at 100499", long1.hour(0), OUTSIDE);
        due(17, "drift(1) at 100499", long1.drift(1), FULL);
        due(17, "drift(61) at 100499", long1.drift(61), OUTSIDE);
        long1.undo();
        due(17, "drift(1) at 99999", long1.drift(1), 0);
        due(16, "told(5)", long1.told(5), 100000);
        due(16, "hour(1) at 100000", long1.hour(1), FULL);
    }

    private static int next(int seed) {
        return (int) ((seed * 1103515245L + 12345L) % 2147483648L);
    }

    private static void drifts() {
        CaptiveCar x = fairOf("x300 2;");
        due(17, "drift(0)", x.drift(0), OUTSIDE);
        due(17, "drift(61)", x.drift(61), OUTSIDE);
        due(17, "the seed, refused", x.seed(0), 0);
        // Of a seed, whose first draw of 5 is known, without goers: what the one hour does and how many draws it took.
        boolean[] met = new boolean[5];
        for (int seed = 0; seed < 40; seed++) {
            int first = next(seed);
            int second = next(first);
            int way = first / 65536 % 5;
            met[way] = true;
            x = fairOf("x300 2;");
            x.car(200);
            x.seed(seed);
            due(17, "drift(1)", x.drift(1), 0);
            due(17, "told(5)", x.told(5), 1);
            due(17, "told(6) of " + seed, x.told(6), way == 2 ? 1 + second / 65536 % 300 : way == 3 ? 0 : 200);
            due(17, "seed of " + seed, x.seed(0), way == 2 ? second : first);
            x = fairOf("x300 2;l50 4;g1 1;g2 1;g3 1;g4 1;p9;");
            x.join(3);
            x.join(2);
            x.join(1);
            x.board();
            x.car(200);
            x.seed(seed);
            int g = second / 65536 % 4;
            due(17, "drift(1) at 200", x.drift(1), 18);
            due(17, "told(8) of " + seed, x.told(8), way == 0 && g == 0 ? 3 : 2);
            due(17, "told(9) of " + seed, x.told(9), way == 3 ? 0 : 12);
            due(17, "seed of " + seed, x.seed(0), way == 2 || way == 0 ? second : first);
            x.undo();
            x.undo();
            x.alight();
            x.seed(seed);
            due(17, "drift(1) at 0", x.drift(1), way == 1 ? 27 : 18);
            due(17, "told(9) at 0 of " + seed, x.told(9), way == 1 ? 2 : 0);
        }
        for (int way = 0; way < 5; way++) {
            due(17, "seeds by which the draw is " + way, met[way] ? 1 : 0, 1);
        }
    }

    private static void undone() {
        CaptiveCar x = fairOf(FAIR);
        due(18, "undo()", x.undo(), NOT);
        x.join(0);
        x.join(0);
        x.join(1);
        x.leave(0);
        x.board();
        x.car(60);
        x.off(1);
        x.hour(5);
        x.fetch(1);
        x.car(0);
        x.alight();
        x.seed(9);
        x.drift(3);
        int after = x.seed(123);
        due(18, "the seed went on", after == 9 ? 1 : 0, 0);
        due(18, "told(19)", x.told(19), 11);
        due(18, "undo() drift", x.undo(), 10);
        due(18, "told(5)", x.told(5), 5);
        due(18, "the seed stays", x.seed(0), 123);
        due(18, "undo() alight", x.undo(), 9);
        due(18, "told(9)", x.told(9), 2);
        due(18, "undo() car", x.undo(), 8);
        due(18, "told(6)", x.told(6), 60);
        due(18, "undo() fetch", x.undo(), 7);
        due(18, "told(10)", x.told(10), 2);
        due(18, "undo() hour", x.undo(), 6);
        due(18, "told(5)", x.told(5), 0);
        due(18, "goer(1, 1)", x.goer(1, 1), 2000);
        due(18, "goer(1, 3)", x.goer(1, 3), 0);
        due(18, "undo() off", x.undo(), 5);
        due(18, "told(9)", x.told(9), 2);
        due(18, "undo() car", x.undo(), 4);
        due(18, "told(6)", x.told(6), 0);
        due(18, "undo() board", x.undo(), 3);
        due(18, "told(11)", x.told(11), 0);
        due(18, "told(8)", x.told(8), 2);
        due(18, "undo() leave", x.undo(), 2);
        due(18, "front(0)", x.front(0), 0);
        due(18, "front(1)", x.front(1), 1);
        due(18, "undo() join", x.undo(), 1);
        due(18, "undo() join", x.undo(), 0);
        due(18, "told(8)", x.told(8), 0);
        due(18, "undo()", x.undo(), NOT);
        for (int i = 1; i <= 20; i++) {
            x.hour(i);
        }
        for (int left = 15; left >= 0; left--) {
            due(18, "undo() of sixteen", x.undo(), left);
        }
        due(18, "undo() of a seventeenth", x.undo(), NOT);
        due(18, "told(5)", x.told(5), 10);
    }

    private static void ages() {
        CaptiveCar x = fairOf(FAIR);
        due(19, "age(5, 0)", x.age(5, 0), UNKNOWN);
        due(19, "age(5, 501)", x.age(5, 501), UNKNOWN);
        due(19, "age(0, 501)", x.age(0, 501), OUTSIDE);
        due(19, "age(0, -1)", x.age(0, -1), OUTSIDE);
        due(19, "age(0, 99)", x.age(0, 99), 20);
        due(19, "age(0, 0)", x.age(0, 0), 20);
        due(19, "age(0, 100)", x.age(0, 100), 21);
        x.join(0);
        x.join(1);
        x.join(2);
        x.board();
        x.car(200);
        x.off(0);
        x.car(199);
        due(19, "age(0, 500)", x.age(0, 500), 120);
        due(19, "age(1, 500)", x.age(1, 500), 35);
        due(19, "age(2, 500)", x.age(2, 500), 29);
        due(19, "goer(0, 0)", x.goer(0, 0), 20);
    }

    private static void lets() {
        CaptiveCar x = fairOf("x300 2;l50 3;l200 20;l250 3;l301 40;g20 1;");
        due(20, "let(1, 0, 0, 9)", x.let(1, 0, 0, 9), UNKNOWN);
        due(20, "let(0, 0, 0, 0)", x.let(0, 0, 0, 0), OUTSIDE);
        due(20, "let(0, 501, 0, 0)", x.let(0, 501, 0, 0), OUTSIDE);
        due(20, "let(0, 1, -1, 0)", x.let(0, 1, -1, 0), OUTSIDE);
        due(20, "let(0, 1, 1000, 0)", x.let(0, 1, 1000, 0), OUTSIDE);
        due(20, "let(0, 1, 1, 2)", x.let(0, 1, 1, 2), OUTSIDE);
        due(20, "let(0, 1, 1, -1)", x.let(0, 1, 1, -1), OUTSIDE);
        due(20, "let(0, 100, 23, 0)", x.let(0, 100, 23, 0), 50);
        due(20, "let(0, 100, 23, 1), in two parts", x.let(0, 100, 23, 1), 300);
        due(20, "let(0, 100, 40, 0)", x.let(0, 100, 40, 0), 200);
        due(20, "let(0, 100, 40, 1)", x.let(0, 100, 40, 1), 249);
        due(20, "let(0, 100, 60, 0) above the end", x.let(0, 100, 60, 0), NONE);
        due(20, "let(0, 100, 60, 1) above the end", x.let(0, 100, 60, 1), NONE);
        due(20, "let(0, 1, 20, 1)", x.let(0, 1, 20, 1), 300);
        due(20, "let(0, 1, 20, 0)", x.let(0, 1, 20, 0), 0);
        CaptiveCar child = fairOf("x10 1;l5 50;l9 60;g0 0;");
        due(20, "let(0, 2, 0, 1)", child.let(0, 2, 0, 1), 4);
        due(20, "let(0, 2, 1, 0)", child.let(0, 2, 1, 0), 5);
        due(20, "let(0, 2, 1, 1)", child.let(0, 2, 1, 1), 10);
        due(20, "let(0, 500, 300, 0)", child.let(0, 500, 300, 0), 9);
        due(20, "let(0, 500, 999, 0)", child.let(0, 500, 999, 0), NONE);
    }

    private static void sames() {
        CaptiveCar x = fairOf("x300 2;l1 2;g20 1;g70 2;g70 3;g71 1;");
        due(21, "same(0, 0, 0)", x.same(0, 0, 0), UNKNOWN);
        due(21, "same(0, 0, 5)", x.same(0, 0, 5), UNKNOWN);
        due(21, "same(0, 4, 0)", x.same(0, 4, 0), UNKNOWN);
        due(21, "same(4, 0, 0)", x.same(4, 0, 0), UNKNOWN);
        due(21, "same(-1, 0, 0)", x.same(-1, 0, 0), UNKNOWN);
        due(21, "same(0, 1, 2)", x.same(0, 1, 2), OUTSIDE);
        due(21, "same(0, 1, -1)", x.same(0, 1, -1), OUTSIDE);
        due(21, "same(1, 2, 1)", x.same(1, 2, 1), 0);
        x.join(0);
        x.board();
        x.car(1);
        due(21, "same(0, 1, 1) at the edge", x.same(0, 1, 1), 5000);
        due(21, "same(1, 0, 1) at the edge", x.same(1, 0, 1), 5000);
        due(21, "same(0, 1, 0)", x.same(0, 1, 0), 4950);
        due(21, "same(0, 3, 1) over the edge", x.same(0, 3, 1), NONE);
        due(21, "same(0, 3, 0) over the edge", x.same(0, 3, 0), NONE);
        x.off(0);
        x.car(0);
        x.join(1);
        x.board();
        x.car(1);
        x.hour(1);
        due(21, "same(0, 1, 1), both alike fast", x.same(0, 1, 1), NONE);
        x.car(0);
        x.alight();
        due(21, "same(0, 1, 1) at the edge yet", x.same(0, 1, 1), 5000);
        CaptiveCar late = fairOf("x10 2;l1 2;g20 0;g70 0;");
        late.join(1);
        late.board();
        late.car(1);
        late.hour(1);
        late.car(0);
        late.alight();
        late.join(0);
        late.board();
        late.car(1);
        due(21, "same(0, 1, 1), 5001 would be", late.same(0, 1, 1), NONE);
    }

    private static void waiting() {
        CaptiveCar x = fairOf("x300 3;g20 1;g70 2;g70 3;g71 1;g71 1;");
        due(22, "waits(5)", x.waits(5), UNKNOWN);
        due(22, "waits(-1)", x.waits(-1), UNKNOWN);
        due(22, "waits(0)", x.waits(0), NONE);
        for (int g = 4; g >= 0; g--) {
            x.join(g);
        }
        due(22, "waits(4)", x.waits(4), 1);
        due(22, "waits(2)", x.waits(2), 1);
        due(22, "waits(1)", x.waits(1), 2);
        due(22, "waits(0)", x.waits(0), 2);
        x.board();
        due(22, "waits(0), the car full", x.waits(0), 1);
        due(22, "waits(4) in the car", x.waits(4), NONE);
    }

    private static void bests() {
        CaptiveCar x = fairOf("x300 8;l10 10;l20 60;g20 2;g99 0;g29 4;");
        due(23, "best(2)", x.best(2), OUTSIDE);
        due(23, "best(-1)", x.best(-1), OUTSIDE);
        due(23, "best(0) of none", x.best(0), 0);
        due(23, "best(1) of none", x.best(1), 0);
        x.join(0);
        x.board();
        x.car(10);
        due(23, "best(0)", x.best(0), 200);
        due(23, "best(1)", x.best(1), 40);
        x.off(0);
        x.car(0);
        x.join(2);
        x.board();
        x.car(20);
        due(23, "best(0)", x.best(0), 500);
        due(23, "best(1)", x.best(1), 372);
        due(23, "told(12)", x.told(12), 2);
        CaptiveCar soon = fairOf("x10 1;l1 60;g0 2;");
        soon.join(0);
        soon.board();
        soon.car(1);
        soon.hour(33);
        due(23, "told(12)", soon.told(12), 39);
        due(23, "best(0), the next hour", soon.best(0), 1);
        soon.hour(1);
        due(23, "best(0), now", soon.best(0), 0);
        due(23, "best(1)", soon.best(1), 40);
    }

    private static void wasAndMeet() {
        CaptiveCar x = new CaptiveCar();
        due(24, "was(-1, 1, 0, 0)", x.was(-1, 1, 0, 0), OUTSIDE);
        due(24, "was(1000, 1, 0, 0)", x.was(1000, 1, 0, 0), OUTSIDE);
        due(24, "was(0, 0, 0, 0)", x.was(0, 0, 0, 0), OUTSIDE);
        due(24, "was(0, 501, 0, 0)", x.was(0, 501, 0, 0), OUTSIDE);
        due(24, "was(0, 1, -1, 0)", x.was(0, 1, -1, 0), OUTSIDE);
        due(24, "was(0, 1, 1000, 0)", x.was(0, 1, 1000, 0), OUTSIDE);
        due(24, "was(0, 1, 0, -1)", x.was(0, 1, 0, -1), OUTSIDE);
        due(24, "was(0, 1, 0, 3)", x.was(0, 1, 0, 3), OUTSIDE);
        due(24, "was(0, 1, 0, 0)", x.was(0, 1, 0, 0), 60);
        due(24, "was(0, 1, 0, 1)", x.was(0, 1, 0, 1), 1);
        due(24, "was(0, 1, 0, 2)", x.was(0, 1, 0, 2), 60);
        due(24, "was(7, 33, 9, 0)", x.was(7, 33, 9, 0), 3);
        due(24, "was(7, 33, 9, 1)", x.was(7, 33, 9, 1), 7);
        due(24, "was(7, 33, 9, 2)", x.was(7, 33, 9, 2), 9);
        due(24, "was(699, 500, 999, 0)", x.was(699, 500, 999, 0), 1);
        due(24, "was(699, 500, 999, 2)", x.was(699, 500, 999, 2), 60);
        due(24, "was(5, 1, 4, 0)", x.was(5, 1, 4, 0), 0);
        due(24, "was(5, 1, 4, 1)", x.was(5, 1, 4, 1), NONE);
        due(24, "was(5, 1, 4, 2)", x.was(5, 1, 4, 2), NONE);
        due(25, "meet(0, 1, 0, 0)", x.meet(0, 1, 0, 0), OUTSIDE);
        due(25, "meet(1000, 1, 0, 0)", x.meet(1000, 1, 0, 0), OUTSIDE);
        due(25, "meet(1, 0, 0, 0)", x.meet(1, 0, 0, 0), OUTSIDE);
        due(25, "meet(1, 1000, 0, 0)", x.meet(1, 1000, 0, 0), OUTSIDE);
        due(25, "meet(1, 1, -1, 0)", x.meet(1, 1, -1, 0), OUTSIDE);
        due(25, "meet(1, 1, 1000, 0)", x.meet(1, 1, 1000, 0), OUTSIDE);
        due(25, "meet(1, 1, 0, -1)", x.meet(1, 1, 0, -1), OUTSIDE);
        due(25, "meet(1, 1, 0, 1000)", x.meet(1, 1, 0, 1000), OUTSIDE);
        due(25, "meet(1, 1, 0, 0)", x.meet(1, 1, 0, 0), 0);
        due(25, "meet(1, 999, 0, 999)", x.meet(1, 999, 0, 999), 999);
        due(25, "meet(999, 1, 999, 0)", x.meet(999, 1, 999, 0), 999);
        due(25, "meet(3, 3, 1, 7)", x.meet(3, 3, 1, 7), 7);
        due(25, "meet(3, 3, 1, 8)", x.meet(3, 3, 1, 8), NONE);
        due(25, "meet(999, 998, 998, 997)", x.meet(999, 998, 998, 997), 997001);
        // Both of the next strike at a HOUR that 999 leaves 0 over of and 998 leaves 1: 999 itself, behind d or not.
        due(25, "meet(999, 998, 0, 1)", x.meet(999, 998, 0, 1), 999);
        due(25, "meet(1, 998, 0, 999)", x.meet(1, 998, 0, 999), 999);
        due(25, "meet(998, 999, 1, 999)", x.meet(998, 999, 1, 999), 999);
    }

    private static void pricesAndWind() {
        CaptiveCar x = fairOf(FAIR);
        due(26, "bestPrice(0, 0)", x.bestPrice(0, 0), OUTSIDE);
        due(26, "bestPrice(21, 0)", x.bestPrice(21, 0), OUTSIDE);
        due(26, "bestPrice(1, 2)", x.bestPrice(1, 2), OUTSIDE);
        due(26, "bestPrice(1, -1)", x.bestPrice(1, -1), OUTSIDE);
        due(26, "bestPrice(5, 0) of none", x.bestPrice(5, 0), 1);
        due(26, "bestPrice(5, 1) of none", x.bestPrice(5, 1), 0);
        x.join(0);
        due(26, "bestPrice(1, 0) of one", x.bestPrice(1, 0), 12);
        due(26, "bestPrice(20, 0) of one", x.bestPrice(20, 0), 31);
        due(26, "bestPrice(20, 1) of one", x.bestPrice(20, 1), 31);
        x.join(1);
        due(26, "bestPrice(12, 0), two like ones", x.bestPrice(12, 0), 23);
        due(26, "bestPrice(12, 1)", x.bestPrice(12, 1), 46);
        x.join(2);
        due(26, "bestPrice(1, 0) of three", x.bestPrice(1, 0), 12);
        due(26, "bestPrice(1, 1) of three", x.bestPrice(1, 1), 36);
        due(27, "wind(-1, 50)", x.wind(-1, 50), OUTSIDE);
        due(27, "wind(61, 50)", x.wind(61, 50), OUTSIDE);
        due(27, "wind(1, -1)", x.wind(1, -1), OUTSIDE);
        due(27, "wind(1, 101)", x.wind(1, 101), OUTSIDE);
        due(27, "wind(0, 0)", x.wind(0, 0), 1000000000);
        due(27, "wind(1, 0)", x.wind(1, 0), 0);
        due(27, "wind(60, 100)", x.wind(60, 100), 1000000000);
        due(27, "wind(6, 99), cut each day", x.wind(6, 99), 941480148);
        due(27, "wind(5, 3)", x.wind(5, 3), 24);
        due(27, "wind(5, 7)", x.wind(5, 7), 1680);
        due(27, "wind(60, 50)", x.wind(60, 50), 0);
    }

    private static void lawsAndYard() {
        CaptiveCar x = new CaptiveCar();
        due(28, "see(-1, 1, true)", x.see(-1, 1, true), OUTSIDE);
        due(28, "see(901, 1, true)", x.see(901, 1, true), OUTSIDE);
        due(28, "see(0, 0, true)", x.see(0, 0, true), OUTSIDE);
        due(28, "see(0, 61, true)", x.see(0, 61, true), OUTSIDE);
        due(29, "laws(3)", x.laws(3), OUTSIDE);
        due(29, "laws(-1)", x.laws(-1), OUTSIDE);
        due(29, "laws(0)", x.laws(0), 53100);
        due(28, "see(0, 1, true)", x.see(0, 1, true), 1);
        due(29, "laws(0) of what is always so", x.laws(0), 53100);
        due(28, "see(20, 60, true)", x.see(20, 60, true), 2);
        due(29, "laws(0)", x.laws(0), 20);
        due(29, "laws(1)", x.laws(1), 1);
        due(29, "laws(2)", x.laws(2), 60);
        due(30, "yard()", x.yard(), 10);
        due(28, "see(10, 2, true)", x.see(10, 2, true), 3);
        due(29, "laws(0)", x.laws(0), 10);
        due(30, "yard() parts none", x.yard(), NONE);
        due(28, "see(5, 3, false)", x.see(5, 3, false), 4);
        due(29, "laws(0)", x.laws(0), 5);
        due(29, "laws(1)", x.laws(1), 6);
        due(28, "see(5, 1, false)", x.see(5, 1, false), 5);
        due(29, "laws(0) of none", x.laws(0), 0);
        due(29, "laws(1) of none", x.laws(1), NONE);
        due(29, "laws(2) of none", x.laws(2), NONE);
        due(30, "yard() of none", x.yard(), NONE);
        due(28, "see(900, 60, false)", x.see(900, 60, false), 6);
        due(28, "see(900, 60, false)", x.see(900, 60, false), FULL);
        due(28, "see(901, 60, false)", x.see(901, 60, false), OUTSIDE);
        due(28, "told(16)", x.told(16), 6);
        x.tear();
        x.see(900, 2, false);
        due(29, "laws(0), nothing at 900", x.laws(0), 0);
        x.tear();
        x.see(899, 2, false);
        x.see(900, 59, true);
        due(29, "laws(0), from 900 on", x.laws(0), 2);
        due(29, "laws(1), from 900 on", x.laws(1), 900);
        due(29, "laws(2), from 900 on", x.laws(2), 59);
        due(30, "yard(), from 900 on", x.yard(), NONE);
        x.tear();
        x.see(100, 10, true);
        due(29, "laws(0)", x.laws(0), 5100);
        x.tear();
        x.see(100, 10, false);
        due(29, "laws(0)", x.laws(0), 48000);
        due(30, "yard()", x.yard(), 490);
        x.tear();
        x.see(15, 2, true);
        x.see(4, 2, false);
        due(29, "laws(0)", x.laws(0), 649);
        due(30, "yard()", x.yard(), 10);
    }

    private static void ends() {
        CaptiveCar x = new CaptiveCar();
        due(31, "feel(0, 0)", x.feel(0, 0), OUTSIDE);
        due(31, "feel(901, 0)", x.feel(901, 0), OUTSIDE);
        due(31, "feel(1, -1)", x.feel(1, -1), OUTSIDE);
        due(31, "feel(1, 3)", x.feel(1, 3), OUTSIDE);
        due(32, "ends(-1)", x.ends(-1), OUTSIDE);
        due(32, "ends(4)", x.ends(4), OUTSIDE);
        due(32, "ends(0)", x.ends(0), 900);
        due(32, "ends(1)", x.ends(1), 1);
        due(32, "ends(2)", x.ends(2), 900);
        due(32, "ends(3)", x.ends(3), 450);
        due(31, "feel(100, 0)", x.feel(100, 0), 1);
        due(31, "feel(104, 2)", x.feel(104, 2), 2);
        due(32, "ends(0)", x.ends(0), 3);
        due(32, "ends(1)", x.ends(1), 101);
        due(32, "ends(2)", x.ends(2), 103);
        due(32, "ends(3)", x.ends(3), 102);
        due(31, "feel(103, 1)", x.feel(103, 1), 3);
        due(32, "ends(0)", x.ends(0), 1);
        due(32, "ends(1)", x.ends(1), 103);
        due(32, "ends(3)", x.ends(3), 103);
        due(31, "feel(102, 1)", x.feel(102, 1), 4);
        for (int what = 0; what < 4; what++) {
            due(32, "ends(" + what + ") of none", x.ends(what), what == 0 ? 0 : NONE);
        }
        due(31, "feel(900, 0)", x.feel(900, 0), 5);
        due(31, "feel(1, 2)", x.feel(1, 2), 6);
        due(31, "feel(1, 2)", x.feel(1, 2), FULL);
        due(31, "feel(0, 2)", x.feel(0, 2), OUTSIDE);
        due(31, "told(17)", x.told(17), 6);
        due(32, "ends(0)", x.ends(0), 0);
        x.tear();
        x.feel(50, 1);
        due(32, "ends(1), felt there alone", x.ends(1), 50);
        due(32, "ends(2), felt there alone", x.ends(2), 50);
        x.tear();
        x.feel(899, 0);
        due(32, "ends(3), above 899", x.ends(3), 900);
        x.tear();
        x.feel(2, 2);
        due(32, "ends(3), below 2", x.ends(3), 1);
    }

    private static void book() {
        CaptiveCar x = fairOf(FAIR);
        due(35, "judge()", x.judge(), NONE);
        due(33, "write(5, 1)", x.write(5, 1), UNKNOWN);
        due(33, "write(-1, -1)", x.write(-1, -1), UNKNOWN);
        due(33, "write(0, -1)", x.write(0, -1), OUTSIDE);
        due(33, "write(0, 1000000)", x.write(0, 1000000), OUTSIDE);
        due(33, "write(0, 20)", x.write(0, 20), 1);
        due(33, "write(2, 24)", x.write(2, 24), 2);
        due(35, "judge()", x.judge(), NONE);
        due(33, "write(2, 25)", x.write(2, 25), 3);
        due(35, "judge()", x.judge(), 2);
        x.hour(99);
        due(35, "judge() behind 99 hours", x.judge(), 2);
        x.hour(1);
        due(35, "judge() behind 100 hours", x.judge(), 0);
        x.undo();
        due(35, "judge(), the book is not undone", x.judge(), 2);
        for (int i = 4; i <= 15; i++) {
            due(33, "write(0, 999999)", x.write(0, 999999), i);
        }
        due(33, "write(0, 0), the 16th", x.write(0, 0), FULL);
        due(33, "write(0, -1), the 16th", x.write(0, -1), OUTSIDE);
        x.see(1, 1, true);
        x.feel(1, 1);
        x.feel(1, 1);
        due(34, "tear()", x.tear(), 18);
        due(34, "tear() again", x.tear(), 0);
        due(34, "told(16)", x.told(16), 0);
        due(34, "told(17)", x.told(17), 0);
        due(34, "told(18)", x.told(18), 0);
        due(35, "judge()", x.judge(), NONE);
        due(34, "told(19), tear() is not undone", x.told(19), 1);
    }

    private static void seedsAndImages() {
        CaptiveCar x = fairOf(FAIR);
        due(36, "seed(-1)", x.seed(-1), OUTSIDE);
        due(36, "seed(2147483647)", x.seed(2147483647), 0);
        x.car(9);
        x.drift(1);
        x.undo();
        int stayed = x.seed(0);
        due(36, "the seed behind drift(1)", stayed, next(2147483647));
        due(36, "seed(4)", x.seed(4), 0);
        due(38, "goBack(-1)", x.goBack(-1), UNKNOWN);
        due(38, "goBack(2)", x.goBack(2), UNKNOWN);
        due(38, "goBack(0)", x.goBack(0), NOT);
        due(37, "keep(-1)", x.keep(-1), UNKNOWN);
        due(37, "keep(2)", x.keep(2), UNKNOWN);
        due(37, "told(19)", x.told(19), 1);
        x.join(3);
        due(37, "keep(1)", x.keep(1), 1);
        due(37, "told(19)", x.told(19), 0);
        due(37, "undo()", x.undo(), NOT);
        due(38, "goBack(0)", x.goBack(0), NOT);
        x.join(1);
        x.car(0);
        x.board();
        x.hour(9);
        x.seed(5);
        x.keep(0);
        x.alight();
        due(38, "told(19)", x.told(19), 1);
        due(38, "goBack(1)", x.goBack(1), 1);
        due(38, "told(19)", x.told(19), 0);
        due(38, "undo()", x.undo(), NOT);
        due(38, "told(5)", x.told(5), 0);
        due(38, "told(6)", x.told(6), 9);
        due(38, "told(8)", x.told(8), 8);
        due(38, "told(11)", x.told(11), 0);
        due(38, "seed(6)", x.seed(6), 4);
        x.leave(3);
        due(38, "goBack(1) again", x.goBack(1), 1);
        due(38, "front(0)", x.front(0), 3);
        due(38, "goBack(0)", x.goBack(0), 1);
        due(38, "told(5)", x.told(5), 9);
        due(38, "told(9)", x.told(9), 10);
        due(38, "told(11)", x.told(11), 30);
        due(38, "goer(1, 3)", x.goer(1, 3), 9);
        due(38, "seed(6)", x.seed(6), 5);
        CaptiveCar heights = fairOf("x30 1;l20 9;g1 1;");
        heights.join(0);
        heights.board();
        heights.car(10);
        heights.off(0);
        heights.keep(0);
        heights.fetch(0);
        heights.car(20);
        heights.off(0);
        due(38, "goer(0, 6)", heights.goer(0, 6), 20);
        heights.keep(1);
        heights.goBack(0);
        due(38, "goer(0, 6), gone back", heights.goer(0, 6), 10);
        due(38, "told(6), gone back", heights.told(6), 10);
        heights.fetch(0);
        heights.car(29);
        heights.off(0);
        heights.undo();
        heights.undo();
        due(18, "undo() fetch", heights.undo(), 0);
        due(18, "goer(0, 6), undone", heights.goer(0, 6), 10);
        heights.goBack(1);
        due(38, "goer(0, 6), gone back to the other", heights.goer(0, 6), 20);
        CaptiveCar none = new CaptiveCar();
        due(37, "keep(0) without a fair", none.keep(0), 1);
        due(38, "goBack(0) without a fair", none.goBack(0), 1);
    }
}
