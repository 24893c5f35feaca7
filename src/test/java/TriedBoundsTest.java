/** The document's section 3 (with promises 18 to 38): the bounds that each sentence names. */
public final class TriedBoundsTest extends Sentences {
    private static final int NONE = -1, UNKNOWN = -1000000001, OUTSIDE = -1000000002, NOT = -1000000003, FULL = -1000000004;
    private static final int LEAST = Integer.MIN_VALUE, MOST = Integer.MAX_VALUE;
    private static final String EIGHT = "g0 0;g1 0;g2 0;g3 0;g4 0;g5 0;g6 0;g7 0;";

    public static void main(String[] args) {
        ages();
        lets();
        letBounds();
        sames();
        sameBounds();
        waits();
        bests();
        was();
        wasBounds();
        meets();
        bestPrices();
        winds();
        sights();
        laws();
        yards();
        feelings();
        ends();
        book();
        tears();
        draws();
        driftWays();
        seeds();
        undone();
        undoneRing();
        images();
        end();
    }

    private static int[] beyond(int least, int most) {
        return new int[] {least - 1, most + 1, LEAST, MOST};
    }

    private static void ages() {
        says("AGE of a GOER behind n HOURS (0 .. 500): in YEARS (cut).");
        Run r = new Run("x10 1;l1 60;g0 0;g99 0;").boarded(0).at(1);
        due("age(1, 0)", r.x().age(1, 0), 99);
        due("age(1, 99)", r.x().age(1, 99), 99);
        due("age(1, 100)", r.x().age(1, 100), 100);
        due("age(1, 500)", r.x().age(1, 500), 104);
        due("age(0, 0)", r.x().age(0, 0), 0);
        due("age(0, 1)", r.x().age(0, 1), 0);
        due("age(0, 2)", r.x().age(0, 2), 1);
        due("age(0, 500)", r.x().age(0, 500), 300);
        for (int n : beyond(0, 500)) {
            due("age(0, " + n + ")", r.x().age(0, n), OUTSIDE);
            due("age(2, " + n + ")", r.x().age(2, n), UNKNOWN);
        }
        for (int g : beyond(0, 1)) {
            due("age(" + g + ", 0)", r.x().age(g, 0), UNKNOWN);
        }
        due("age(0, 0) without a FAIR", new Run().x().age(0, 0), UNKNOWN);
        r.hours(99);
        due("age(1, 0) behind 99", r.x().age(1, 0), 99);
        due("age(1, 1) behind 99", r.x().age(1, 1), 100);
    }

    private static void lets() {
        says("heights y (0 to E) at which a GOER would have to be from now on");
        Run end = new Run("x10 1;l10 5;g0 0;");
        due("let(0, 100, 5, 0), at THE END alone", end.x().let(0, 100, 5, 0), 10);
        due("let(0, 100, 5, 1), at THE END alone", end.x().let(0, 100, 5, 1), 10);
        due("let(0, 100, 1, 0), at 0", end.x().let(0, 100, 1, 0), 0);
        due("let(0, 100, 1, 1), up to 9", end.x().let(0, 100, 1, 1), 9);
        Run above = new Run("x10 1;l11 5;g0 0;");
        due("let(0, 100, 5, 0), above THE END", above.x().let(0, 100, 5, 0), NONE);
        due("let(0, 100, 5, 1), above THE END", above.x().let(0, 100, 5, 1), NONE);
        due("let(0, 100, 1, 1), up to THE END", above.x().let(0, 100, 1, 1), 10);
        Run low = new Run("x900 1;l1 5;g0 0;");
        due("let(0, 100, 1, 1), at 0 alone", low.x().let(0, 100, 1, 1), 0);
        due("let(0, 100, 5, 0), from 1 on", low.x().let(0, 100, 5, 0), 1);
        due("let(0, 100, 5, 1), to 900", low.x().let(0, 100, 5, 1), 900);
        due("let(0, 100, 0, 0), no height", low.x().let(0, 100, 0, 0), NONE);
        due("let(0, 100, 2, 0), no height", low.x().let(0, 100, 2, 0), NONE);
    }

    private static void letBounds() {
        says("so that behind n HOURS (1 .. 500) it is a YEARS old: the least; the greatest; NONE.");
        Run r = new Run("x10 1;l1 60;g0 0;g99 0;").boarded(1).at(1);
        due("let(0, 1, 0, 1)", r.x().let(0, 1, 0, 1), 10);
        due("let(0, 500, 5, 1)", r.x().let(0, 500, 5, 1), 0);
        due("let(0, 500, 300, 0)", r.x().let(0, 500, 300, 0), 1);
        due("let(0, 500, 299, 0)", r.x().let(0, 500, 299, 0), NONE);
        due("let(0, 500, 301, 0)", r.x().let(0, 500, 301, 0), NONE);
        for (int n : beyond(1, 500)) {
            due("let(0, " + n + ", 5, 0)", r.x().let(0, n, 5, 0), OUTSIDE);
        }
        says("LET (a 0 .. 999): what = 0 the least, 1 the greatest; NONE. UNKNOWN, OUTSIDE.");
        for (int a : beyond(0, 999)) {
            due("let(0, 1, " + a + ", 0)", r.x().let(0, 1, a, 0), OUTSIDE);
        }
        for (int what : beyond(0, 1)) {
            due("let(0, 1, 0, " + what + ")", r.x().let(0, 1, 0, what), OUTSIDE);
        }
        for (int g : beyond(0, 1)) {
            due("let(" + g + ", 1, 0, 0)", r.x().let(g, 1, 0, 0), UNKNOWN);
            due("let(" + g + ", 0, 1000, 2)", r.x().let(g, 0, 1000, 2), UNKNOWN);
        }
        r.hours(1500);
        due("goer(1, 1)", r.x().goer(1, 1), 99900);
        due("let(1, 1, 999, 0)", r.x().let(1, 1, 999, 0), 0);
        due("let(1, 1, 999, 1)", r.x().let(1, 1, 999, 1), 10);
        due("let(1, 2, 999, 1), 1000 at 1", r.x().let(1, 2, 999, 1), 0);
        due("let(1, 100, 999, 0), 1000 everywhere", r.x().let(1, 100, 999, 0), NONE);
    }

    /** The first goes up at 2, the second stays, so many HOURS older by then. */
    private static Run chase(int upHours, int groundHours) {
        return new Run("x10 1;l1 2;g0 0;g50 0;").boarded(1).at(1).hours(upHours).at(0).boardAnew(groundHours, 0);
    }

    private static void sames() {
        says("SAME: behind how many HOURS (0 .. 5000) two GOERS are first of one age in YEARS; in HOURS; NONE.");
        Run r = chase(0, 0);
        due("same(0, 1, 1) at 5000", r.x().same(0, 1, 1), 5000);
        due("same(1, 0, 1) at 5000", r.x().same(1, 0, 1), 5000);
        due("same(0, 1, 0) by 4950", r.x().same(0, 1, 0), 4950);
        r = chase(1, 0);
        due("same(0, 1, 1), 5001 would be", r.x().same(0, 1, 1), NONE);
        due("same(1, 0, 1), 5001 would be", r.x().same(1, 0, 1), NONE);
        r = chase(50, 50);
        due("goer(0, 1)", r.x().goer(0, 1), 100);
        due("goer(1, 1)", r.x().goer(1, 1), 5150);
        due("same(0, 1, 0) at 5000", r.x().same(0, 1, 0), 5000);
        due("same(1, 0, 0) at 5000", r.x().same(1, 0, 0), 5000);
        due("same(0, 1, 1) at 5050", r.x().same(0, 1, 1), NONE);
        r = chase(51, 47);
        due("goer(0, 1)", r.x().goer(0, 1), 98);
        due("goer(1, 1)", r.x().goer(1, 1), 5149);
        due("same(0, 1, 0), 5001 would be", r.x().same(0, 1, 0), NONE);
        due("same(1, 0, 0), 5001 would be", r.x().same(1, 0, 0), NONE);
        Run like = new Run("x10 1;l1 2;g5 0;g5 0;").boarded(1).at(1).hours(1);
        due("same(0, 1, 0), at once", like.x().same(0, 1, 0), 0);
        due("same(0, 1, 1), never", like.x().same(0, 1, 1), NONE);
        like.x().undo();
        due("same(0, 1, 1), at once", like.x().same(0, 1, 1), 0);
        Run past = new Run("x10 1;l1 60;g1 0;g0 0;").boarded(1).at(1);
        due("same(0, 1, 0), in the same HOUR", past.x().same(0, 1, 0), 2);
        due("same(0, 1, 1), leapt over", past.x().same(0, 1, 1), NONE);
    }

    private static void sameBounds() {
        says("SAME: what = 0 in YEARS, 1 in HOURS; NONE. UNKNOWN, OUTSIDE.");
        Run r = new Run("x10 1;g5 0;g6 0;");
        for (int what : beyond(0, 1)) {
            due("same(0, 1, " + what + ")", r.x().same(0, 1, what), OUTSIDE);
            due("same(0, 0, " + what + ")", r.x().same(0, 0, what), UNKNOWN);
            due("same(0, 2, " + what + ")", r.x().same(0, 2, what), UNKNOWN);
        }
        for (int g : beyond(0, 1)) {
            due("same(" + g + ", 1, 0)", r.x().same(g, 1, 0), UNKNOWN);
            due("same(1, " + g + ", 0)", r.x().same(1, g, 0), UNKNOWN);
            due("same(" + g + ", " + g + ", 0)", r.x().same(g, g, 0), UNKNOWN);
        }
        says("one twice, where two are asked");
        due("same(0, 0, 0)", r.x().same(0, 0, 0), UNKNOWN);
        due("same(1, 1, 1)", r.x().same(1, 1, 1), UNKNOWN);
        due("same(1, 0, 1)", r.x().same(1, 0, 1), NONE);
    }

    private static void waits() {
        says("WAITS: how many BOARDINGS, one behind the other, THE CAR empty ahead of each, "
            + "till a GOER of THE QUEUE is in it (1: the next one); NONE: it is not in THE QUEUE.");
        for (int room = 1; room <= 8; room++) {
            Run r = new Run("x10 " + room + ";" + EIGHT).joined(7, 6, 5, 4, 3, 2, 1, 0);
            for (int turn = 0; turn < 8; turn++) {
                int boardings = 1;
                for (int placed = room; placed <= turn; placed += room) {
                    boardings++;
                }
                due("waits(), room " + room + ", turn " + turn, r.x().waits(7 - turn), boardings);
            }
            r.boarded();
            due("waits(7) in THE CAR", r.x().waits(7), NONE);
            due("waits(), the next, THE CAR full", r.x().waits(7 - Math.min(7, room)), room == 8 ? NONE : 1);
            r.at(1);
            r.x().off(7);
            due("waits(7) set down", r.x().waits(7), NONE);
            r.at(0).x().alight();
            due("waits(6) on the ground or in THE QUEUE", r.x().waits(6), room == 1 ? 1 : NONE);
        }
        says("WAITS; NONE. UNKNOWN.");
        Run r = new Run("x10 1;" + EIGHT);
        for (int g : beyond(0, 7)) {
            due("waits(" + g + ")", r.x().waits(g), UNKNOWN);
        }
        due("waits(0) on the ground", r.x().waits(0), NONE);
        due("waits(0) without a FAIR", new Run().x().waits(0), UNKNOWN);
    }

    private static void bests() {
        says("BEST: behind how many of 0 to 500 HOURS BAND is most; of like ones the first; how much.");
        Run r = new Run("x10 1;l1 60;g0 1;g0 2;g99 4;").boarded(0);
        due("best(0), at 500", r.x().best(0), 500);
        due("best(1), at 500", r.x().best(1), 5);
        r.hours(99);
        due("best(0), 501 would be more", r.x().best(0), 401);
        due("best(1), 501 would be more", r.x().best(1), 5);
        r.hours(1);
        due("best(0), at 500 again", r.x().best(0), 500);
        due("best(1), at 500 again", r.x().best(1), 6);
        r.x().alight();
        due("best(0) of nobody", r.x().best(0), 0);
        due("best(1) of nobody", r.x().best(1), 0);
        r.boarded(1).hours(400);
        due("goer(1, 3)", r.x().goer(1, 3), 400);
        due("best(1) of 40 at most", r.x().best(1), 18);
        r.hours(1100);
        due("best(0), at 500", r.x().best(0), 500);
        due("best(1), at 500", r.x().best(1), 40);
        r.hours(1);
        due("best(0), at 499", r.x().best(0), 499);
        r.hours(498);
        due("best(0), the next HOUR", r.x().best(0), 1);
        r.hours(1);
        due("best(0), now", r.x().best(0), 0);
        due("best(1), now", r.x().best(1), 40);
        Run eight = new Run("x10 8;g0 1;g0 1;g0 1;g0 1;g0 1;g0 1;g0 1;g0 1;").boarded(0, 1, 2, 3, 4, 5, 6, 7);
        due("best(0) of eight", eight.x().best(0), 500);
        due("best(1) of eight", eight.x().best(1), 40);
        due("told(12) of eight", eight.hours(100).x().told(12), 8);
        says("BEST: what = 0 behind how many, 1 how much. OUTSIDE.");
        Run none = new Run();
        for (int what : beyond(0, 1)) {
            due("best(" + what + ")", r.x().best(what), OUTSIDE);
            due("best(" + what + ") without a FAIR", none.x().best(what), OUTSIDE);
        }
        due("best(0) without a FAIR", none.x().best(0), 0);
        due("best(1) without a FAIR", none.x().best(1), 0);
    }

    private static void dueWas(int a, int n, int b, int many, int least, int greatest) {
        Run r = new Run();
        due("was(" + a + ", " + n + ", " + b + ", 0)", r.x().was(a, n, b, 0), many);
        due("was(" + a + ", " + n + ", " + b + ", 1)", r.x().was(a, n, b, 1), least);
        due("was(" + a + ", " + n + ", " + b + ", 2)", r.x().was(a, n, b, 2), greatest);
    }

    private static void was() {
        says("numbers s (1 to 60) times that time can have gone there: how many; the least; the greatest; NONE.");
        dueWas(0, 100, 0, 0, NONE, NONE);
        dueWas(0, 100, 1, 1, 1, 1);
        dueWas(0, 100, 60, 1, 60, 60);
        dueWas(0, 100, 61, 0, NONE, NONE);
        dueWas(0, 1, 0, 60, 1, 60);
        dueWas(0, 1, 1, 0, NONE, NONE);
        dueWas(0, 2, 0, 49, 1, 49);
        dueWas(0, 2, 1, 11, 50, 60);
        dueWas(0, 500, 4, 0, NONE, NONE);
        dueWas(0, 500, 5, 1, 1, 1);
        dueWas(0, 500, 300, 1, 60, 60);
        dueWas(0, 500, 305, 0, NONE, NONE);
        dueWas(999, 1, 999, 60, 1, 60);
        dueWas(999, 500, 999, 0, NONE, NONE);
        dueWas(999, 1, 0, 0, NONE, NONE);
        dueWas(0, 500, 999, 0, NONE, NONE);
        dueWas(699, 500, 999, 1, 60, 60);
        dueWas(698, 500, 999, 0, NONE, NONE);
    }

    private static void wasBounds() {
        says("one was just a YEARS old as it went up (0 .. 999), was n HOURS (1 .. 500) at one height, and b YEARS old then (0 .. 999, cut)");
        Run r = new Run();
        for (int v : beyond(0, 999)) {
            due("was(" + v + ", 1, 0, 0)", r.x().was(v, 1, 0, 0), OUTSIDE);
            due("was(0, 1, " + v + ", 0)", r.x().was(0, 1, v, 0), OUTSIDE);
        }
        for (int n : beyond(1, 500)) {
            due("was(0, " + n + ", 0, 0)", r.x().was(0, n, 0, 0), OUTSIDE);
        }
        says("WAS: what = 0 how many, 1 the least, 2 the greatest; NONE. OUTSIDE.");
        for (int what : beyond(0, 2)) {
            due("was(0, 1, 0, " + what + ")", r.x().was(0, 1, 0, what), OUTSIDE);
        }
    }

    private static void meets() {
        says("MEET: one clock strikes at HOUR c and each a HOURS from then on, another one at HOUR d and each b "
            + "(a, b 1 .. 999; c, d 0 .. 999): the first HOUR at which both strike; NONE.");
        Run r = new Run();
        for (int v : beyond(1, 999)) {
            due("meet(" + v + ", 1, 0, 0)", r.x().meet(v, 1, 0, 0), OUTSIDE);
            due("meet(1, " + v + ", 0, 0)", r.x().meet(1, v, 0, 0), OUTSIDE);
        }
        for (int v : beyond(0, 999)) {
            due("meet(1, 1, " + v + ", 0)", r.x().meet(1, 1, v, 0), OUTSIDE);
            due("meet(1, 1, 0, " + v + ")", r.x().meet(1, 1, 0, v), OUTSIDE);
        }
        int[][] due = {
            {1, 1, 0, 0, 0}, {1, 1, 999, 999, 999}, {1, 1, 0, 999, 999}, {1, 1, 999, 0, 999}, {999, 999, 0, 0, 0}, {999, 999, 0, 999, 999},
            {999, 999, 999, 0, 999}, {999, 999, 0, 998, NONE}, {999, 999, 1, 999, NONE}, {2, 2, 0, 1, NONE}, {2, 4, 1, 3, 3}, {2, 4, 5, 3, 7},
            {999, 998, 1, 999, 997003}, {998, 999, 999, 1, 997003}, {999, 998, 0, 0, 0}, {999, 998, 999, 998, 997002},
            {998, 996, 0, 1, NONE}, {2, 999, 0, 999, 1998}, {1, 999, 0, 999, 999}, {999, 1, 999, 0, 999}, {997, 2, 0, 999, 1994 + 997}};
        for (int[] d : due) {
            due("meet(" + d[0] + ", " + d[1] + ", " + d[2] + ", " + d[3] + ")", r.x().meet(d[0], d[1], d[2], d[3]), d[4]);
        }
    }

    private static void duePrice(int queue, int d, int price, int much) {
        Run r = new Run("x10 1;p50;" + EIGHT);
        for (int g = 0; g < queue; g++) {
            r.joined(g);
        }
        due("bestPrice(" + d + ", 0) of " + queue, r.x().bestPrice(d, 0), price);
        due("bestPrice(" + d + ", 1) of " + queue, r.x().bestPrice(d, 1), much);
    }

    private static void bestPrices() {
        says("one goes away for each whole d (1 .. 20) by which PRICE is above 12 (none is left at last)");
        duePrice(1, 1, 12, 12);
        duePrice(1, 2, 13, 13);
        duePrice(1, 20, 31, 31);
        duePrice(8, 1, 12, 96);
        duePrice(8, 2, 15, 105);
        duePrice(8, 3, 20, 120);
        duePrice(8, 20, 91, 455);
        duePrice(2, 1, 12, 24);
        duePrice(2, 20, 31, 62);
        Run r = new Run("x10 1;" + EIGHT);
        Run none = new Run();
        for (int d : beyond(1, 20)) {
            due("bestPrice(" + d + ", 0)", r.x().bestPrice(d, 0), OUTSIDE);
            due("bestPrice(" + d + ", 0) without a FAIR", none.x().bestPrice(d, 0), OUTSIDE);
        }
        says("the PRICE of 1 to 99 by which the others pay most; of like ones the least; how much");
        duePrice(0, 1, 1, 0);
        duePrice(0, 20, 1, 0);
        duePrice(3, 11, 22, 66);
        duePrice(5, 11, 33, 132);
        due("bestPrice(1, 0) without a FAIR", none.x().bestPrice(1, 0), 1);
        due("bestPrice(20, 1) without a FAIR", none.x().bestPrice(20, 1), 0);
        says("BEST PRICE: what = 0 the price, 1 how much. OUTSIDE.");
        for (int what : beyond(0, 1)) {
            due("bestPrice(1, " + what + ")", r.x().bestPrice(1, what), OUTSIDE);
        }
    }

    private static void winds() {
        says("odds that it holds n days (0 .. 60), each by q of a hundred (0 .. 100): a BILLION times q / 100 each (cut)");
        Run r = new Run();
        for (int n : beyond(0, 60)) {
            due("wind(" + n + ", 50)", r.x().wind(n, 50), OUTSIDE);
        }
        for (int q : beyond(0, 100)) {
            due("wind(1, " + q + ")", r.x().wind(1, q), OUTSIDE);
        }
        int[][] due = {
            {0, 0, 1000000000}, {0, 100, 1000000000}, {1, 0, 0}, {60, 0, 0}, {1, 100, 1000000000}, {60, 100, 1000000000},
            {1, 1, 10000000}, {4, 1, 10}, {5, 1, 0}, {1, 99, 990000000}, {60, 99, 547156620}, {60, 1, 0}, {5, 3, 24}, {6, 3, 0}};
        for (int[] d : due) {
            due("wind(" + d[0] + ", " + d[1] + ")", r.x().wind(d[0], d[1]), d[2]);
        }
    }

    private static void sights() {
        says("SEEN (6 at most): over an unknown fair of one LAYER time went s times (1 .. 60) or more at a height y (0 .. 900), or did not.");
        Run r = new Run();
        for (int y : beyond(0, 900)) {
            due("see(" + y + ", 1, true)", r.x().see(y, 1, true), OUTSIDE);
        }
        for (int s : beyond(1, 60)) {
            due("see(0, " + s + ", false)", r.x().see(0, s, false), OUTSIDE);
        }
        due("told(16) of none", r.x().told(16), 0);
        due("see(0, 1, true)", r.x().see(0, 1, true), 1);
        due("see(900, 60, true)", r.x().see(900, 60, true), 2);
        due("see(0, 60, false)", r.x().see(0, 60, false), 3);
        due("see(900, 1, true)", r.x().see(900, 1, true), 4);
        due("see(900, 1, true), alike", r.x().see(900, 1, true), 5);
        due("laws(0)", r.x().laws(0), 900);
        due("see(899, 2, false), the sixth", r.x().see(899, 2, false), 6);
        due("laws(0), the sixth counts", r.x().laws(0), 1);
        says("SEEN: how much. OUTSIDE, FULL (6).");
        due("see(900, 1, false), the seventh", r.x().see(900, 1, false), FULL);
        due("laws(0), the seventh does not count", r.x().laws(0), 1);
        due("told(16)", r.x().told(16), 6);
        for (int v : beyond(0, 900)) {
            due("see(" + v + ", 1, true), the seventh", r.x().see(v, 1, true), OUTSIDE);
        }
        for (int s : beyond(1, 60)) {
            due("see(0, " + s + ", true), the seventh", r.x().see(0, s, true), OUTSIDE);
        }
        due("tear()", r.x().tear(), 6);
        due("see(0, 1, true), the first again", r.x().see(0, 1, true), 1);
    }

    /** What is seen: pairs y, s, of which a negative s was not so. */
    private static Run seen(int... all) {
        Run r = new Run();
        for (int i = 0; i + 1 < all.length; i += 2) {
            r.x().see(all[i], Math.abs(all[i + 1]), all[i + 1] > 0);
        }
        return r;
    }

    private static void dueLaws(Run r, int many, int y, int g) {
        due("laws(0)", r.x().laws(0), many);
        due("laws(1)", r.x().laws(1), y);
        due("laws(2)", r.x().laws(2), g);
    }

    private static void laws() {
        says("pairs Y (1 .. 900), G (2 .. 60) of such a LAYER by which all that is SEEN is so: how many; the least Y; the least G with it; NONE.");
        dueLaws(seen(), 53100, 1, 2);
        dueLaws(seen(0, 1), 53100, 1, 2);
        dueLaws(seen(0, -1), 0, NONE, NONE);
        dueLaws(seen(0, 2), 0, NONE, NONE);
        dueLaws(seen(0, -2), 53100, 1, 2);
        dueLaws(seen(1, 2), 59, 1, 2);
        dueLaws(seen(1, -2), 59 * 899, 2, 2);
        dueLaws(seen(1, 60), 1, 1, 60);
        dueLaws(seen(1, -60), 53099, 1, 2);
        dueLaws(seen(899, -2), 59, 900, 2);
        dueLaws(seen(899, -2, 900, 60), 1, 900, 60);
        dueLaws(seen(900, 2), 53100, 1, 2);
        dueLaws(seen(900, -2), 0, NONE, NONE);
        dueLaws(seen(900, 1), 53100, 1, 2);
        dueLaws(seen(900, -1), 0, NONE, NONE);
        dueLaws(seen(900, 60), 900, 1, 60);
        dueLaws(seen(900, -60), 58 * 900, 1, 2);
        dueLaws(seen(900, 3), 58 * 900, 1, 3);
        dueLaws(seen(900, -3), 900, 1, 2);
        dueLaws(seen(900, 30, 900, -31), 900, 1, 30);
        dueLaws(seen(900, 30, 900, -30), 0, NONE, NONE);
        // A height at the least Y itself is in the LAYER, one yard below is not.
        dueLaws(seen(50, 2, 49, -2, 900, 7), 54, 50, 7);
        dueLaws(seen(50, 2, 50, -2), 0, NONE, NONE);
        // Less than 5 times at 20, 9 times or more at 900: the LAYER begins above 20.
        dueLaws(seen(20, -5, 900, 9), 880 * 52, 21, 9);
        says("LAWS: what = 0 how many, 1 the least Y0, 2 the least k with it; NONE. OUTSIDE.");
        Run r = new Run();
        for (int what : beyond(0, 2)) {
            due("laws(" + what + ")", r.x().laws(what), OUTSIDE);
        }
    }

    private static void yards() {
        says("of 10, 20, to 900 yards the one by which, as it is below Y or not, these pairs are told apart best");
        due("yard() of all", seen().x().yard(), 450);
        due("yard() of Y 1 .. 20", seen(20, 2).x().yard(), 10);
        due("yard() of Y 1 .. 11", seen(11, 2).x().yard(), 10);
        due("yard() of Y 881 .. 900", seen(880, -2).x().yard(), 890);
        due("yard() of Y 890 .. 900", seen(889, -2).x().yard(), 890);
        due("yard() of Y 871 .. 900, like ones", seen(870, -2).x().yard(), 880);
        says("the greatest part that is alike is least; of like ones the least; NONE: none parts them");
        due("yard() of Y 1 .. 30, like ones", seen(30, 2).x().yard(), 10);
        due("yard() of Y 1 .. 10", seen(10, 2).x().yard(), NONE);
        due("yard() of Y 891 .. 900", seen(890, -2).x().yard(), NONE);
        due("yard() of Y 10 alone", seen(10, 2, 9, -2).x().yard(), NONE);
        due("yard() of Y 10, 11", seen(11, 2, 9, -2).x().yard(), 10);
        due("yard() of Y 11, 12", seen(12, 2, 10, -2).x().yard(), NONE);
        due("yard() of none", seen(0, -1).x().yard(), NONE);
        due("yard() of 450, 451", seen(451, 2, 449, -2).x().yard(), 450);
    }

    private static void feelings() {
        says("FELT (6 at most): an unknown END is at y (how 1), above it (0), below it (2).");
        Run r = new Run();
        due("feel(1, 0)", r.x().feel(1, 0), 1);
        due("feel(900, 2)", r.x().feel(900, 2), 2);
        due("ends(0)", r.x().ends(0), 898);
        due("feel(7, 1)", r.x().feel(7, 1), 3);
        due("ends(0)", r.x().ends(0), 1);
        due("feel(7, 1), alike", r.x().feel(7, 1), 4);
        due("feel(6, 0)", r.x().feel(6, 0), 5);
        due("ends(0)", r.x().ends(0), 1);
        due("feel(7, 0), the sixth", r.x().feel(7, 0), 6);
        due("ends(0), the sixth counts", r.x().ends(0), 0);
        says("FELT (y 1 .. 900; how 0 .. 2): how much. OUTSIDE, FULL (6).");
        due("feel(1, 0), the seventh", r.x().feel(1, 0), FULL);
        for (int y : beyond(1, 900)) {
            due("feel(" + y + ", 1), the seventh", r.x().feel(y, 1), OUTSIDE);
        }
        for (int how : beyond(0, 2)) {
            due("feel(1, " + how + "), the seventh", r.x().feel(1, how), OUTSIDE);
        }
        due("told(17)", r.x().told(17), 6);
        due("tear()", r.x().tear(), 6);
        for (int y : beyond(1, 900)) {
            due("feel(" + y + ", 1)", r.x().feel(y, 1), OUTSIDE);
        }
        for (int how : beyond(0, 2)) {
            due("feel(1, " + how + ")", r.x().feel(1, how), OUTSIDE);
        }
        due("told(17)", r.x().told(17), 0);
        due("feel(900, 1)", r.x().feel(900, 1), 1);
    }

    private static void dueEnds(int[] felt, int many, int least, int greatest, int middle) {
        Run r = new Run();
        for (int i = 0; i + 1 < felt.length; i += 2) {
            r.x().feel(felt[i], felt[i + 1]);
        }
        due("ends(0)", r.x().ends(0), many);
        due("ends(1)", r.x().ends(1), least);
        due("ends(2)", r.x().ends(2), greatest);
        due("ends(3)", r.x().ends(3), middle);
    }

    private static void ends() {
        says("numbers (1 .. 900) by which all that is FELT is so: how many; the least; the greatest; the middle of these (of two the lesser); NONE.");
        dueEnds(new int[] {}, 900, 1, 900, 450);
        dueEnds(new int[] {1, 0}, 899, 2, 900, 451);
        dueEnds(new int[] {1, 1}, 1, 1, 1, 1);
        dueEnds(new int[] {1, 2}, 0, NONE, NONE, NONE);
        dueEnds(new int[] {2, 2}, 1, 1, 1, 1);
        dueEnds(new int[] {3, 2}, 2, 1, 2, 1);
        dueEnds(new int[] {4, 2}, 3, 1, 3, 2);
        dueEnds(new int[] {5, 2}, 4, 1, 4, 2);
        dueEnds(new int[] {900, 0}, 0, NONE, NONE, NONE);
        dueEnds(new int[] {900, 1}, 1, 900, 900, 900);
        dueEnds(new int[] {900, 2}, 899, 1, 899, 450);
        dueEnds(new int[] {899, 0}, 1, 900, 900, 900);
        dueEnds(new int[] {898, 0}, 2, 899, 900, 899);
        dueEnds(new int[] {5, 0, 6, 2}, 0, NONE, NONE, NONE);
        dueEnds(new int[] {5, 0, 7, 2}, 1, 6, 6, 6);
        dueEnds(new int[] {5, 1, 6, 1}, 0, NONE, NONE, NONE);
        // What is felt may be further apart than by one: none fits then either, not less than none.
        dueEnds(new int[] {5, 1, 7, 1}, 0, NONE, NONE, NONE);
        dueEnds(new int[] {900, 0, 1, 2}, 0, NONE, NONE, NONE);
        dueEnds(new int[] {500, 0, 100, 2}, 0, NONE, NONE, NONE);
        dueEnds(new int[] {5, 1, 5, 0}, 0, NONE, NONE, NONE);
        dueEnds(new int[] {5, 1, 5, 2}, 0, NONE, NONE, NONE);
        dueEnds(new int[] {5, 1, 4, 0, 6, 2}, 1, 5, 5, 5);
        says("ENDS: what = 0 how many, 1 the least, 2 the greatest, 3 the middle; NONE. OUTSIDE.");
        Run r = new Run();
        for (int what : beyond(0, 3)) {
            due("ends(" + what + ")", r.x().ends(what), OUTSIDE);
        }
    }

    private static void book() {
        says("THE BOOK (15 at most) tells how many YEARS old GOERS are: WRONG: the first that is otherwise now; NONE.");
        Run r = new Run("x10 1;g0 0;g99 0;");
        due("judge() of none", r.x().judge(), NONE);
        for (int i = 1; i <= 14; i++) {
            due("write()", r.x().write(i % 2, i % 2 * 99), i);
        }
        due("judge() of 14 that are right", r.x().judge(), NONE);
        due("write(), the 15th", r.x().write(1, 98), 15);
        due("judge(), the last is wrong", r.x().judge(), 14);
        r.hours(99);
        due("judge(), 99 HOURS on", r.x().judge(), 14);
        r.hours(1);
        due("judge(), 100 HOURS on", r.x().judge(), 0);
        r.x().undo();
        due("judge(), undone", r.x().judge(), 14);
        says("An entry behind THE BOOK (0 .. 999999): how many. UNKNOWN, OUTSIDE, FULL (15).");
        due("write(), the 16th", r.x().write(0, 1), FULL);
        due("told(18)", r.x().told(18), 15);
        for (int years : beyond(0, 999999)) {
            due("write(0, " + years + "), the 16th", r.x().write(0, years), OUTSIDE);
            due("write(2, " + years + "), the 16th", r.x().write(2, years), UNKNOWN);
        }
        for (int g : beyond(0, 1)) {
            due("write(" + g + ", 1), the 16th", r.x().write(g, 1), UNKNOWN);
        }
        due("tear()", r.x().tear(), 15);
        for (int years : beyond(0, 999999)) {
            due("write(0, " + years + ")", r.x().write(0, years), OUTSIDE);
        }
        for (int g : beyond(0, 1)) {
            due("write(" + g + ", 1)", r.x().write(g, 1), UNKNOWN);
        }
        due("told(18)", r.x().told(18), 0);
        due("write(0, 0)", r.x().write(0, 0), 1);
        due("judge()", r.x().judge(), NONE);
        due("write(0, 999999)", r.x().write(0, 999999), 2);
        due("judge()", r.x().judge(), 1);
        due("write(0, 1) without a FAIR", new Run().x().write(0, 1), UNKNOWN);
    }

    private static void tears() {
        says("Nothing SEEN, FELT, THE BOOK is empty: how much all had.");
        Run r = new Run("x10 1;g0 0;").joined(0);
        r.x().seed(9);
        due("tear() of nothing", r.x().tear(), 0);
        for (int i = 0; i < 15; i++) {
            r.x().see(900, 2, false);
            r.x().feel(1, 2);
            r.x().write(0, 7);
        }
        due("tear() of all that there can be", r.x().tear(), 27);
        due("told(16)", r.x().told(16), 0);
        due("told(17)", r.x().told(17), 0);
        due("told(18)", r.x().told(18), 0);
        due("laws(0)", r.x().laws(0), 53100);
        due("ends(0)", r.x().ends(0), 900);
        due("judge()", r.x().judge(), NONE);
        due("tear() again", r.x().tear(), 0);
        due("told(8), untouched", r.x().told(8), 1);
        due("told(19), untouched", r.x().told(19), 1);
        due("seed(9), untouched", r.x().seed(9), 9);
        due("write(), the first again", r.x().write(0, 0), 1);
    }

    private static int next(int seed) {
        return (int) ((seed * 1103515245L + 12345L) % 2147483648L);
    }

    private static void draws() {
        says("(0 at first: each DRAW it becomes it times 1103515245 and 12345, left over by 2 to the 31; the DRAW of n is it / 65536, left over by n)");
        // Without GOERS: 0 takes one DRAW, 3 one, 3 one, 2 two (the second, 229283573, is 3498 of 65536: 8 of 10).
        Run r = new Run("x10 1;");
        int[] after = {12345, 1406932606, 654583775, 229283573, 1109335178};
        int[] heights = {0, 0, 0, 9, 0};
        for (int i = 0; i < 4; i++) {
            r.x().drift(1);
            due("seed() behind " + (i + 1), r.x().seed(after[i]), after[i]);
            due("told(6) behind " + (i + 1), r.x().told(6), heights[i]);
        }
        Run most = new Run("x10 1;");
        due("seed(2147483647)", most.x().seed(MOST), 0);
        most.x().drift(1);
        due("seed() behind 2147483647", most.x().seed(0), 1043980748);
        Run sixty = new Run("x900 3;l9 9;g0 0;g1 1;g2 2;p9;");
        Run single = new Run("x900 3;l9 9;g0 0;g1 1;g2 2;p9;");
        int got = sixty.x().drift(60);
        int last = 0;
        for (int i = 0; i < 60; i++) {
            last = single.x().drift(1);
        }
        due("drift(60), as drift(1) sixty times", got, last);
        for (int what = 5; what <= 15; what++) {
            due("told(" + what + ")", sixty.x().told(what), single.x().told(what));
        }
        due("the seed", sixty.x().seed(0), single.x().seed(0));
        due("told(19) of drift(60), one", sixty.x().told(19), 1);
    }

    /** A seed whose first DRAW of 5 is way and whose second of n is this one. */
    private static int seedOf(int way, int n, int second) {
        for (int seed = 0; seed < 10000000; seed++) {
            int first = next(seed);
            if (first / 65536 % 5 == way && next(first) / 65536 % n == second) {
                return seed;
            }
        }
        return NONE;
    }

    private static Run drifted(Run r, int seed) {
        r.x().seed(seed);
        r.x().drift(1);
        return r;
    }

    private static void driftWays() {
        says("on 0, if there are GOERS, a DRAW of these JOINS, if it is on the ground");
        int zero = seedOf(0, 8, 0);
        int seven = seedOf(0, 8, 7);
        due("told(8), the first", drifted(new Run("x10 1;" + EIGHT), zero).x().told(8), 1);
        due("told(8), the last", drifted(new Run("x10 1;" + EIGHT), seven).x().told(8), 128);
        Run r = drifted(new Run("x10 1;"), zero);
        due("the seed, without GOERS", r.x().seed(0), next(zero));
        r = drifted(new Run("x10 1;" + EIGHT).joined(7, 3), seven);
        due("told(8), in THE QUEUE already", r.x().told(8), 136);
        due("front(1)", r.x().front(1), 3);
        due("the seed, drawn all the same", r.x().seed(0), next(next(seven)));
        r = drifted(new Run("x10 1;" + EIGHT).boarded(7), seven);
        due("told(8), in THE CAR", r.x().told(8), 0);
        due("told(9), in THE CAR", r.x().told(9), 128);
        r = new Run("x10 1;" + EIGHT).boarded(7).at(1);
        r.x().off(7);
        due("told(8), set down", drifted(r, seven).x().told(8), 0);
        says("on 1 all that can BOARD, if THE CAR is at 0");
        int one = seedOf(1, 1, 0);
        r = drifted(new Run("x10 2;p5;" + EIGHT).joined(4, 5, 6), one);
        due("told(9), two come in", r.x().told(9), 48);
        due("told(11)", r.x().told(11), 10);
        due("goer(4, 3), an HOUR in THE CAR", r.x().goer(4, 3), 1);
        due("told(19), one to be undone", r.x().told(19), 4);
        r = drifted(new Run("x10 2;p5;" + EIGHT).joined(4, 5, 6).at(1), one);
        due("told(9) at 1", r.x().told(9), 0);
        due("told(11) at 1", r.x().told(11), 0);
        due("told(9), nobody waits", drifted(new Run("x10 2;" + EIGHT), one).x().told(9), 0);
        says("on 2 THE CAR goes to 1, and a DRAW of E, yards");
        int[] all = {10, 900};
        for (int end : all) {
            r = drifted(new Run("x" + end + " 1;l" + end + " 7;g0 0;").boarded(0), seedOf(2, end, end - 1));
            due("told(6) at most", r.x().told(6), end);
            due("told(7)", r.x().told(7), 1);
            due("goer(0, 1), the HOUR is up there", r.x().goer(0, 1), 7);
            r = drifted(new Run("x" + end + " 1;").at(end), seedOf(2, end, 0));
            due("told(6) at least", r.x().told(6), 1);
        }
        says("on 3 it goes to 0, all ALIGHT");
        int three = seedOf(3, 1, 0);
        r = new Run("x10 2;l1 7;" + EIGHT).boarded(4, 5).at(10);
        r.x().off(4);
        drifted(r, three);
        due("told(6)", r.x().told(6), 0);
        due("told(9)", r.x().told(9), 0);
        due("told(10), set down yet", r.x().told(10), 16);
        due("goer(5, 1), the HOUR is on the ground", r.x().goer(5, 1), 501);
        due("goer(4, 1)", r.x().goer(4, 1), 407);
        due("undo()", r.x().undo(), 5);
        due("told(9), undone", r.x().told(9), 32);
        due("told(6), undone", r.x().told(6), 10);
        says("ahead of each a DRAW of 5");
        int four = seedOf(4, 1, 0);
        r = drifted(new Run("x10 2;" + EIGHT).boarded(4, 5).joined(6).at(10), four);
        due("told(6) on 4", r.x().told(6), 10);
        due("told(8) on 4", r.x().told(8), 64);
        due("told(9) on 4", r.x().told(9), 48);
        due("told(5) on 4", r.x().told(5), 1);
        due("the seed on 4", r.x().seed(0), next(four));
    }

    private static void seeds() {
        says("THE SEED becomes v (0 .. 2147483647): what it was. OUTSIDE.");
        Run r = new Run();
        due("seed(-1)", r.x().seed(-1), OUTSIDE);
        due("seed(-2147483648)", r.x().seed(LEAST), OUTSIDE);
        due("seed(2147483647)", r.x().seed(MOST), 0);
        due("seed(-1)", r.x().seed(-1), OUTSIDE);
        due("seed(0)", r.x().seed(0), MOST);
        due("seed(1)", r.x().seed(1), 0);
        due("seed(1)", r.x().seed(1), 1);
        due("told(19)", r.x().told(19), 0);
    }

    private static void undone() {
        says("The latest is undone: how many more can be. NOT: none.");
        due("undo() without a FAIR", new Run().x().undo(), NOT);
        Run r = new Run("x10 2;l1 5;" + EIGHT);
        due("undo() of none", r.x().undo(), NOT);
        r.joined(0, 1, 2);
        r.x().leave(1);
        r.boarded().at(1);
        r.x().off(0);
        r.hours(3);
        r.x().fetch(0);
        r.at(0).x().alight();
        r.x().seed(seedOf(0, 8, 3));
        r.x().drift(1);
        // Of all nine, from the latest on: HOURS, the height, THE QUEUE, THE CAR, those set down, GOT.
        int[][] due = {{3, 0, 0, 0, 0, 24}, {3, 0, 0, 5, 0, 24}, {3, 1, 0, 5, 0, 24}, {3, 1, 0, 4, 1, 24}, {0, 1, 0, 4, 1, 24},
            {0, 1, 0, 5, 0, 24}, {0, 0, 0, 5, 0, 24}, {0, 0, 5, 0, 0, 0}, {0, 0, 7, 0, 0, 0}, {0, 0, 3, 0, 0, 0}, {0, 0, 1, 0, 0, 0},
            {0, 0, 0, 0, 0, 0}};
        int[] whats = {5, 6, 8, 9, 10, 11};
        for (int i = 0; i < due.length; i++) {
            due("undo()", r.x().undo(), due.length - 1 - i);
            for (int k = 0; k < whats.length; k++) {
                due("told(" + whats[k] + ") behind undo() " + (i + 1), r.x().told(whats[k]), due[i][k]);
            }
        }
        due("undo() of none", r.x().undo(), NOT);
        r = new Run("x10 1;" + EIGHT).joined(5, 0, 7);
        r.x().leave(5);
        due("undo() of leave(5)", r.x().undo(), 3);
        dueQueue(r, 5, 0, 7);
        r.boarded();
        due("undo() of board()", r.x().undo(), 3);
        dueQueue(r, 5, 0, 7);
        r.boarded().at(3);
        r.x().off(5);
        r.x().fetch(5);
        r.at(9);
        r.x().off(5);
        due("goer(5, 6)", r.x().goer(5, 6), 9);
        r.x().undo();
        r.x().undo();
        due("undo() of fetch(5)", r.x().undo(), 6);
        due("goer(5, 6), set down where it was", r.x().goer(5, 6), 3);
        says("UNDONE: the latest of join(), leave(), board(), car(), alight(), off(), fetch(), hour(), drift() that was not refused");
        r = new Run("x10 2;l1 5;g5 0;g5 0;").joined(0);
        r.x().join(0);
        r.x().leave(1);
        r.x().car(0);
        r.x().car(11);
        r.x().off(0);
        r.x().fetch(0);
        r.x().hour(0);
        r.x().drift(61);
        r.x().join(2);
        r.x().seed(5);
        r.x().see(1, 1, true);
        r.x().feel(1, 1);
        r.x().write(0, 5);
        r.x().tear();
        r.x().feed('x');
        due("told(19), none of these counts", r.x().told(19), 1);
        r.at(1);
        r.x().board();
        r.x().alight();
        due("told(19), refused at 1", r.x().told(19), 2);
        due("undo() of car(1)", r.x().undo(), 1);
        due("undo() of join(0)", r.x().undo(), 0);
        due("told(8)", r.x().told(8), 0);
        due("told(4), the text is not undone", r.x().told(4), 1);
        says("all of section 2 is as ahead of it; THE SEED stays");
        r = new Run("x10 2;l1 5;g5 0;g5 0;");
        r.x().seed(77);
        r.x().drift(5);
        int seed = r.x().seed(123);
        due("the seed moved", seed == 77 ? 1 : 0, 0);
        r.x().undo();
        due("the seed, undone", r.x().seed(0), 123);
    }

    private static void dueQueue(Run r, int... goers) {
        for (int n = 0; n < goers.length; n++) {
            due("front(" + n + ")", r.x().front(n), goers[n]);
        }
        due("front(" + goers.length + ")", r.x().front(goers.length), NONE);
    }

    private static void undoneRing() {
        says("(16 at most are kept, the oldest are lost)");
        for (int done = 15; done <= 18; done++) {
            Run r = new Run("x30 1;");
            for (int y = 1; y <= done; y++) {
                r.at(y);
                due("told(19) behind " + y, r.x().told(19), Math.min(16, y));
            }
            int kept = Math.min(16, done);
            for (int left = kept - 1; left >= 0; left--) {
                due("undo() of " + done, r.x().undo(), left);
                due("told(6)", r.x().told(6), done - kept + left);
            }
            due("undo(), the oldest are lost", r.x().undo(), NOT);
            due("told(6)", r.x().told(6), done - kept);
        }
        // What is done behind an undo() takes its place, as often as may be.
        Run r = new Run("x900 1;");
        int height = 0;
        for (int round = 0; round < 9; round++) {
            for (int i = 0; i < 20; i++) {
                height++;
                r.at(height);
            }
            for (int i = 0; i < 7; i++) {
                r.x().undo();
                height--;
            }
            due("told(19) in round " + round, r.x().told(19), 9);
            due("told(6) in round " + round, r.x().told(6), height);
        }
        for (int left = 8; left >= 0; left--) {
            due("undo()", r.x().undo(), left);
            height--;
            due("told(6)", r.x().told(6), height);
        }
        due("undo(), none is left", r.x().undo(), NOT);
    }

    private static void images() {
        says("IMAGE i becomes what is so (nothing can be undone then): 1. UNKNOWN.");
        Run r = new Run("x10 2;l1 5;g5 1;g5 1;g5 1;").boarded(0, 1).at(3);
        r.x().off(1);
        r.joined(2).hours(2);
        r.x().seed(MOST);
        for (int i : beyond(0, 1)) {
            due("keep(" + i + ")", r.x().keep(i), UNKNOWN);
            due("goBack(" + i + ")", r.x().goBack(i), UNKNOWN);
        }
        due("told(19), refused", r.x().told(19), 7);
        due("goBack(0), not kept", r.x().goBack(0), NOT);
        due("goBack(1), not kept", r.x().goBack(1), NOT);
        due("told(19), refused", r.x().told(19), 7);
        due("keep(1)", r.x().keep(1), 1);
        due("told(19), kept", r.x().told(19), 0);
        due("undo(), kept", r.x().undo(), NOT);
        due("told(10), as it was", r.x().told(10), 2);
        due("goBack(0), not kept yet", r.x().goBack(0), NOT);
        says("What is so becomes IMAGE i (nothing can be undone then): 1. UNKNOWN, NOT: it was not kept.");
        r.at(0).x().alight();
        r.x().leave(2);
        r.hours(9);
        r.x().seed(4);
        due("keep(0)", r.x().keep(0), 1);
        r.hours(1);
        due("goBack(1)", r.x().goBack(1), 1);
        due("told(19)", r.x().told(19), 0);
        due("undo()", r.x().undo(), NOT);
        int[] first = {2, 3, 0, 4, 1, 2, 24};
        int[] whats = {5, 6, 7, 8, 9, 10, 11};
        for (int k = 0; k < whats.length; k++) {
            due("told(" + whats[k] + ") of the one", r.x().told(whats[k]), first[k]);
        }
        due("goer(1, 1)", r.x().goer(1, 1), 510);
        due("goer(1, 3)", r.x().goer(1, 3), 10);
        due("goer(1, 6)", r.x().goer(1, 6), 3);
        due("front(0)", r.x().front(0), 2);
        due("seed(8)", r.x().seed(8), MOST);
        due("goBack(0)", r.x().goBack(0), 1);
        due("told(5) of the other", r.x().told(5), 11);
        due("told(8) of the other", r.x().told(8), 0);
        due("goer(1, 1) of the other", r.x().goer(1, 1), 555);
        due("seed(8) of the other", r.x().seed(8), 4);
        due("goBack(0) again", r.x().goBack(0), 1);
        due("seed(8) again", r.x().seed(8), 4);
        r.at(7);
        due("keep(0) anew", r.x().keep(0), 1);
        r.at(0);
        due("goBack(0) anew", r.x().goBack(0), 1);
        due("told(6) anew", r.x().told(6), 7);
        due("goBack(1), the other is untouched", r.x().goBack(1), 1);
        due("told(6) of the one", r.x().told(6), 3);
        says("IMAGES 0, 1 keep all of section 2, THE SEED.");
        r = new Run("x10 1;" + EIGHT).boarded(3).at(3);
        r.x().off(3);
        r.joined(6, 1, 4);
        r.x().keep(0);
        r.x().fetch(3);
        r.at(8);
        r.x().off(3);
        r.x().leave(6);
        r.joined(0);
        r.x().keep(1);
        r.x().goBack(0);
        dueQueue(r, 6, 1, 4);
        due("goer(3, 6), set down where it was", r.x().goer(3, 6), 3);
        r.x().goBack(1);
        dueQueue(r, 1, 4, 0);
        due("goer(3, 6) of the other", r.x().goer(3, 6), 8);
        r = new Run("x10 2;g5 1;");
        r.x().see(1, 1, true);
        r.x().keep(0);
        r.x().feel(1, 1);
        r.x().write(0, 5);
        r.feed("x1");
        due("goBack(0)", r.x().goBack(0), 1);
        due("told(16), not of section 2", r.x().told(16), 1);
        due("told(17), not of section 2", r.x().told(17), 1);
        due("told(18), not of section 2", r.x().told(18), 1);
        due("told(4), not of section 2", r.x().told(4), 2);
        Run none = new Run();
        none.x().seed(5);
        due("keep(0) without a FAIR", none.x().keep(0), 1);
        none.x().seed(6);
        due("goBack(0) without a FAIR", none.x().goBack(0), 1);
        due("seed(0) without a FAIR", none.x().seed(0), 5);
        due("told(0) without a FAIR", none.x().told(0), 0);
    }
}
