/** The document's section 2 (with promises 5 to 17): the bounds that each sentence names. */
public final class DeedBoundsTest extends Sentences {
    private static final int NONE = -1, UNKNOWN = -1000000001, OUTSIDE = -1000000002, NOT = -1000000003, FULL = -1000000004;
    private static final int LEAST = Integer.MIN_VALUE, MOST = Integer.MAX_VALUE;
    private static final String EIGHT = "g0 0;g1 0;g2 0;g3 0;g4 0;g5 0;g6 0;g7 0;";

    public static void main(String[] args) {
        carAtFirst();
        speeds();
        agesAndWork();
        joinsAndLeaves();
        boardings();
        heights();
        alightings();
        offAndFetched();
        offAndFetchedAtHeights();
        hours();
        hoursFull();
        skills();
        band();
        pulls();
        told();
        end();
    }

    private static void carAtFirst() {
        says("THE CAR is at a height of 0 yards at first, empty.");
        Run r = new Run("x10 1;l1 9;g5 2;");
        due("told(6)", r.x().told(6), 0);
        due("told(9)", r.x().told(9), 0);
        due("car(0)", r.x().car(0), NOT);
        due("alight()", r.x().alight(), 0);
        says("GOERS are on the ground (at first), in THE QUEUE, in THE CAR, or set down at a height");
        Run all = new Run("x10 8;" + EIGHT);
        for (int g = 0; g < 8; g++) {
            due("goer(" + g + ", 5)", all.x().goer(g, 5), 0);
            due("goer(" + g + ", 3)", all.x().goer(g, 3), 0);
        }
        due("told(8)", all.x().told(8), 0);
        due("told(9)", all.x().told(9), 0);
        due("told(10)", all.x().told(10), 0);
    }

    private static void speeds() {
        says("the G of the highest LAYER that begins there or below it, 1 below all");
        Run r = new Run("x10 1;l2 9;l3 5;l899 7;l900 60;");
        int[][] due = {{0, 1}, {1, 1}, {2, 9}, {3, 5}, {4, 5}, {898, 5}, {899, 7}, {900, 60}};
        for (int[] d : due) {
            due("speed(" + d[0] + ")", r.x().speed(d[0]), d[1]);
        }
        says("SPEED of time at a height (0 .. 900). OUTSIDE, NOT: no FAIR.");
        int[] outside = {-1, 901, LEAST, MOST};
        Run none = new Run();
        for (int y : outside) {
            due("speed(" + y + ")", r.x().speed(y), OUTSIDE);
            due("speed(" + y + ") without a FAIR", none.x().speed(y), OUTSIDE);
        }
        due("speed(0) without a FAIR", none.x().speed(0), NOT);
        due("speed(900) without a FAIR", none.x().speed(900), NOT);
    }

    private static void agesAndWork() {
        says("A times 100 at first; a YEAR here has 100 HOURS");
        Run r = new Run("x10 1;g0 1;g99 1;");
        due("goer(0, 0)", r.x().goer(0, 0), 0);
        due("goer(1, 0)", r.x().goer(1, 0), 99);
        due("goer(1, 1)", r.x().goer(1, 1), 9900);
        due("goer(1, 3)", r.x().goer(1, 3), 0);
        r.hours(99);
        due("goer(0, 0) at 99", r.x().goer(0, 0), 0);
        due("goer(1, 0) at 9999", r.x().goer(1, 0), 99);
        r.hours(1);
        due("goer(0, 0) at 100", r.x().goer(0, 0), 1);
        due("goer(1, 0) at 10000", r.x().goer(1, 0), 100);
        says("what = 0 its age in YEARS, 1 in HOURS, 2 TRADE, 3 HOURS of work, 4 SKILL, 5 where it is");
        int[] outside = {-1, 7, LEAST, MOST};
        int[] unknown = {-1, 2, LEAST, MOST};
        for (int i = 0; i < 4; i++) {
            due("goer(1, " + outside[i] + ")", r.x().goer(1, outside[i]), OUTSIDE);
            due("goer(" + unknown[i] + ", 0)", r.x().goer(unknown[i], 0), UNKNOWN);
            due("goer(" + unknown[i] + ", 6)", r.x().goer(unknown[i], 6), UNKNOWN);
            due("goer(" + unknown[i] + ", " + outside[i] + ")", r.x().goer(unknown[i], outside[i]), UNKNOWN);
        }
        due("goer(1, 6)", r.x().goer(1, 6), 0);
        says("(0 on the ground, 1 in THE QUEUE, 2 in THE CAR, 3 set down), 6 at what height it is");
        r.joined(0);
        due("goer(0, 5) in THE QUEUE", r.x().goer(0, 5), 1);
        due("goer(0, 6) in THE QUEUE", r.x().goer(0, 6), 0);
        r.boarded();
        due("goer(0, 5) in THE CAR", r.x().goer(0, 5), 2);
        due("goer(0, 6) in THE CAR at 0", r.x().goer(0, 6), 0);
        r.at(10);
        due("goer(0, 6) in THE CAR", r.x().goer(0, 6), 10);
        due("goer(1, 6) on the ground", r.x().goer(1, 6), 0);
        r.x().off(0);
        r.at(0);
        due("goer(0, 5) set down", r.x().goer(0, 5), 3);
        due("goer(0, 6) set down", r.x().goer(0, 6), 10);
        r.at(10);
        r.x().fetch(0);
        r.at(4);
        due("goer(0, 6) fetched", r.x().goer(0, 6), 4);
    }

    private static void joinsAndLeaves() {
        says("one on the ground comes to THE QUEUE's end; LEAVES it: is on the ground");
        Run r = new Run("x10 8;" + EIGHT);
        for (int g = 7; g >= 0; g--) {
            due("join(" + g + ")", r.x().join(g), 8 - g);
        }
        for (int n = 0; n < 8; n++) {
            due("front(" + n + ")", r.x().front(n), 7 - n);
        }
        due("leave(7), the first", r.x().leave(7), 7);
        due("leave(0), the last", r.x().leave(0), 6);
        due("leave(4), the middle", r.x().leave(4), 5);
        int[] left = {6, 5, 3, 2, 1, NONE, NONE, NONE};
        for (int n = 0; n < 8; n++) {
            due("front(" + n + ")", r.x().front(n), left[n]);
        }
        due("goer(7, 5)", r.x().goer(7, 5), 0);
        due("join(7) again", r.x().join(7), 6);
        due("front(5)", r.x().front(5), 7);
        says("JOINS: how many are in THE QUEUE. UNKNOWN, NOT: it is not on the ground.");
        int[] unknown = {-1, 8, LEAST, MOST};
        for (int g : unknown) {
            due("join(" + g + ")", r.x().join(g), UNKNOWN);
            due("leave(" + g + ")", r.x().leave(g), UNKNOWN);
        }
        due("join(7) in THE QUEUE", r.x().join(7), NOT);
        r.boarded();
        due("join(7) in THE CAR", r.x().join(7), NOT);
        r.at(1);
        r.x().off(7);
        due("join(7) set down", r.x().join(7), NOT);
        says("LEAVES: how many are in THE QUEUE yet. UNKNOWN, NOT: it is not in it.");
        due("leave(7) set down", r.x().leave(7), NOT);
        due("leave(6) in THE CAR", r.x().leave(6), NOT);
        due("leave(4) on the ground", r.x().leave(4), NOT);
        r.joined(4);
        due("leave(4), the only one", r.x().leave(4), 0);
        due("leave(4) again", r.x().leave(4), NOT);
        says("FRONT: the n-th in THE QUEUE; NONE.");
        r.joined(0, 4);
        int[] none = {-1, 2, 7, 8, LEAST, MOST};
        for (int n : none) {
            due("front(" + n + ")", r.x().front(n), NONE);
        }
        due("front(1)", r.x().front(1), 4);
    }

    private static void boardings() {
        says("BOARDED, with THE CAR at 0: from THE QUEUE's front on, as many as there is room, come into it, each pays PRICE");
        for (int room = 1; room <= 8; room++) {
            for (int queue = 0; queue <= 8; queue++) {
                Run r = new Run("x10 " + room + ";p5;" + EIGHT);
                for (int g = 0; g < queue; g++) {
                    r.joined(7 - g);
                }
                int coming = Math.min(room, queue);
                due("board() of " + queue + " into " + room, r.x().board(), coming);
                due("told(11)", r.x().told(11), 5 * coming);
                due("front(0)", r.x().front(0), coming < queue ? 7 - coming : NONE);
                due("goer(0, 5)", r.x().goer(7, 5), queue > 0 ? 2 : 0);
                due("board() again", r.x().board(), 0);
                due("told(11) again", r.x().told(11), 5 * coming);
                due("told(15)", r.x().told(15), 5 * (queue - coming));
            }
        }
        Run r = new Run("x10 3;p99;" + EIGHT).boarded(4).joined(1, 0, 2);
        due("board() with room for two", r.x().board(), 2);
        due("told(9)", r.x().told(9), 19);
        due("told(8)", r.x().told(8), 4);
        due("board() without room", r.x().board(), 0);
        due("told(11)", r.x().told(11), 297);
        r.at(1);
        r.x().off(0);
        r.at(0);
        due("board() into the place of one set down", r.x().board(), 1);
        due("told(9)", r.x().told(9), 22);
        says("BOARDED: how many come in. NOT: THE CAR is not at 0, no FAIR.");
        r.at(1);
        due("board() at 1", r.x().board(), NOT);
        r.at(10);
        due("board() at 10", r.x().board(), NOT);
        r.at(0);
        due("board() at 0", r.x().board(), 0);
        due("board() without a FAIR", new Run().x().board(), NOT);
        due("board() without GOERS", new Run("x10 1;").x().board(), 0);
    }

    private static void heights() {
        says("LET UP, or REELED IN, to y (0 .. E): at what height it was. OUTSIDE, NOT: it is there already.");
        int[] all = {10, 11, 899, 900};
        for (int end : all) {
            Run r = new Run("x" + end + " 1;");
            int[] outside = {-1, end + 1, LEAST, MOST};
            for (int y : outside) {
                due("car(" + y + ")", r.x().car(y), OUTSIDE);
            }
            due("car(0) at 0", r.x().car(0), NOT);
            due("car(E)", r.x().car(end), 0);
            due("car(E) at E", r.x().car(end), NOT);
            due("car(E + 1) at E", r.x().car(end + 1), OUTSIDE);
            due("car(1)", r.x().car(1), end);
            due("car(1) at 1", r.x().car(1), NOT);
            due("car(0)", r.x().car(0), 1);
            due("car(E - 1)", r.x().car(end - 1), 0);
            due("told(6)", r.x().told(6), end - 1);
        }
        says("LET UP, or REELED IN, to y yards (THE END at most): no HOUR goes by.");
        Run r = new Run("x10 1;l1 60;g0 1;").boarded(0).at(10).at(0).at(3);
        due("told(5)", r.x().told(5), 0);
        due("goer(0, 1)", r.x().goer(0, 1), 0);
        due("goer(0, 3)", r.x().goer(0, 3), 0);
    }

    private static void alightings() {
        says("ALIGHTED: how many. NOT: THE CAR is not at 0, no FAIR.");
        due("alight() without a FAIR", new Run().x().alight(), NOT);
        Run r = new Run("x10 8;" + EIGHT);
        due("alight() of none", r.x().alight(), 0);
        r.boarded(0, 1, 2, 3, 4, 5, 6, 7).at(1);
        due("alight() at 1", r.x().alight(), NOT);
        r.x().off(3);
        r.at(10);
        due("alight() at 10", r.x().alight(), NOT);
        r.at(0);
        says("ALIGHTED, with THE CAR at 0: all are on the ground.");
        due("alight() of seven", r.x().alight(), 7);
        due("told(9)", r.x().told(9), 0);
        due("told(10), set down yet", r.x().told(10), 8);
        due("goer(7, 5)", r.x().goer(7, 5), 0);
        due("alight() again", r.x().alight(), 0);
        r.joined(6);
        due("alight(), one in THE QUEUE", r.x().alight(), 0);
        due("goer(6, 5)", r.x().goer(6, 5), 1);
        Run all = new Run("x10 8;" + EIGHT).boarded(0, 1, 2, 3, 4, 5, 6, 7);
        due("alight() of eight", all.x().alight(), 8);
    }

    private static void offAndFetched() {
        says("OFF: how many are in THE CAR yet. UNKNOWN, NOT: it is not in THE CAR, this is at 0.");
        Run r = new Run("x10 2;" + EIGHT).boarded(0, 1, 2);
        int[] unknown = {-1, 8, LEAST, MOST};
        for (int g : unknown) {
            due("off(" + g + ") at 0", r.x().off(g), UNKNOWN);
            due("fetch(" + g + ") at 0", r.x().fetch(g), UNKNOWN);
        }
        due("off(0) at 0", r.x().off(0), NOT);
        due("off(3) on the ground, at 0", r.x().off(3), NOT);
        r.at(1);
        for (int g : unknown) {
            due("off(" + g + ") at 1", r.x().off(g), UNKNOWN);
            due("fetch(" + g + ") at 1", r.x().fetch(g), UNKNOWN);
        }
        due("off(2) in THE QUEUE", r.x().off(2), NOT);
        due("off(3) on the ground", r.x().off(3), NOT);
        due("off(0) at 1", r.x().off(0), 1);
        due("off(0) set down", r.x().off(0), NOT);
        r.at(10);
        due("off(0) set down elsewhere", r.x().off(0), NOT);
        due("off(1) at THE END, the last", r.x().off(1), 0);
        due("goer(1, 6)", r.x().goer(1, 6), 10);
        says("FETCHED: how many are in THE CAR. UNKNOWN, NOT: it is not set down, not at this height; FULL: there is no room.");
        due("fetch(0) from 10", r.x().fetch(0), NOT);
        due("fetch(2) in THE QUEUE", r.x().fetch(2), NOT);
        due("fetch(3) on the ground", r.x().fetch(3), NOT);
        r.at(2);
        due("fetch(0) from 2", r.x().fetch(0), NOT);
        r.at(0);
        due("fetch(0) from 0", r.x().fetch(0), NOT);
        r.at(1);
        due("fetch(0) from 1", r.x().fetch(0), 1);
        due("fetch(0) in THE CAR", r.x().fetch(0), NOT);
        r.at(9);
        due("fetch(1) from 9", r.x().fetch(1), NOT);
        r.at(10);
        due("fetch(1) into the last place", r.x().fetch(1), 2);
        r.x().off(0);
        r.at(0).boarded().at(9);
        due("fetch(0), no room and not there", r.x().fetch(0), NOT);
        due("fetch(3), no room and on the ground", r.x().fetch(3), NOT);
        r.at(10);
        due("fetch(8), no room and unknown", r.x().fetch(8), UNKNOWN);
        due("fetch(1), no room and in THE CAR", r.x().fetch(1), NOT);
        due("fetch(0), no room", r.x().fetch(0), FULL);
        due("goer(0, 5)", r.x().goer(0, 5), 3);
        r.x().off(2);
        due("fetch(0), room again", r.x().fetch(0), 2);
        Run one = new Run("x10 1;g1 1;g2 2;").boarded(0).at(1);
        one.x().off(0);
        one.at(0).boarded(1).at(1);
        due("fetch(0), the only place taken", one.x().fetch(0), FULL);
    }

    private static void offAndFetchedAtHeights() {
        says("OFF: a GOER in THE CAR, at a height of 1 or more, is set down at that height; FETCHED: it comes into THE CAR there.");
        int[] all = {1, 2, 899, 900};
        for (int y : all) {
            Run r = new Run("x900 1;l899 5;g4 1;").boarded(0);
            due("off(0) at 0", r.x().off(0), NOT);
            r.at(y);
            due("off(0) at " + y, r.x().off(0), 0);
            due("goer(0, 6)", r.x().goer(0, 6), y);
            r.at(0).hours(2);
            due("goer(0, 1), THE CAR at 0", r.x().goer(0, 1), y < 899 ? 402 : 410);
            r.at(y - 1);
            due("fetch(0) from a yard below", r.x().fetch(0), NOT);
            due("car(a yard above)", r.x().car(y + 1), y == 900 ? OUTSIDE : y - 1);
            due("fetch(0) from there", r.x().fetch(0), NOT);
            r.at(y);
            due("fetch(0) from " + y, r.x().fetch(0), 1);
            due("goer(0, 5)", r.x().goer(0, 5), 2);
            due("goer(0, 6)", r.x().goer(0, 6), y);
        }
    }

    private static void hours() {
        says("each GOER in THE CAR, or set down, is as many HOURS older, as SPEED is there, has done as many HOURS of work; "
            + "all others are one HOUR older; HOURS are one more.");
        Run r = new Run("x10 3;l1 2;l10 60;g0 1;g0 1;g0 1;g0 1;g0 1;").boarded(0, 1).at(1);
        r.x().off(0);
        r.at(0).boarded(2).joined(3).at(9);
        r.x().off(1);
        r.at(10).hours(1);
        int[][] due = {{2, 2}, {2, 2}, {60, 60}, {1, 0}, {1, 0}};
        for (int g = 0; g < 5; g++) {
            due("goer(" + g + ", 1)", r.x().goer(g, 1), due[g][0]);
            due("goer(" + g + ", 3)", r.x().goer(g, 3), due[g][1]);
        }
        r.at(0).hours(1);
        due("goer(2, 1) in THE CAR at 0", r.x().goer(2, 1), 61);
        due("goer(2, 3) in THE CAR at 0", r.x().goer(2, 3), 61);
        due("goer(0, 3) set down at 1", r.x().goer(0, 3), 4);
        due("told(5)", r.x().told(5), 2);
        says("n HOURS (1 .. 500): HOURS. OUTSIDE, NOT: no FAIR; FULL: HOURS are above 99999.");
        int[] outside = {0, -1, 501, LEAST, MOST};
        Run none = new Run();
        for (int n : outside) {
            due("hour(" + n + ")", r.x().hour(n), OUTSIDE);
            due("hour(" + n + ") without a FAIR", none.x().hour(n), OUTSIDE);
        }
        due("hour(1)", r.x().hour(1), 3);
        due("hour(500)", r.x().hour(500), 503);
        due("hour(1) without a FAIR", none.x().hour(1), NOT);
        due("hour(500) without a FAIR", none.x().hour(500), NOT);
        says("n HOURS (1 .. 60) BY DRAWS: GOT in all. OUTSIDE, NOT: no FAIR; FULL: HOURS are above 99999.");
        int[] outsideDrift = {0, -1, 61, 500, LEAST, MOST};
        for (int n : outsideDrift) {
            due("drift(" + n + ")", r.x().drift(n), OUTSIDE);
            due("drift(" + n + ") without a FAIR", none.x().drift(n), OUTSIDE);
        }
        due("drift(1) without a FAIR", none.x().drift(1), NOT);
        due("drift(60) without a FAIR", none.x().drift(60), NOT);
        r.x().drift(1);
        due("told(5)", r.x().told(5), 504);
        r.x().drift(60);
        due("told(5)", r.x().told(5), 564);
    }

    private static Run late(int hours) {
        return new Run("x10 1;l1 60;g99 4;").boarded(0).at(1).hours(hours);
    }

    private static void hoursFull() {
        says("OUTSIDE, NOT: no FAIR; FULL: HOURS are above 99999.");
        Run r = late(99999);
        due("told(5)", r.x().told(5), 99999);
        due("hour(500) at 99999", r.x().hour(500), 100499);
        due("goer(0, 1), the greatest age there is", r.x().goer(0, 1), 9900 + 60 * 100499);
        due("goer(0, 0)", r.x().goer(0, 0), 60398);
        due("goer(0, 3)", r.x().goer(0, 3), 60 * 100499);
        due("goer(0, 4)", r.x().goer(0, 4), 60299 + 6039);
        due("age(0, 500)", r.x().age(0, 500), 60698);
        due("hour(1) at 100499", r.x().hour(1), FULL);
        due("drift(1) at 100499", r.x().drift(1), FULL);
        due("undo()", r.x().undo(), 15);
        due("hour(1) at 99999", r.x().hour(1), 100000);
        due("hour(1) at 100000", r.x().hour(1), FULL);
        due("hour(500) at 100000", r.x().hour(500), FULL);
        due("drift(1) at 100000", r.x().drift(1), FULL);
        due("drift(60) at 100000", r.x().drift(60), FULL);
        due("hour(0) at 100000", r.x().hour(0), OUTSIDE);
        due("hour(501) at 100000", r.x().hour(501), OUTSIDE);
        due("drift(0) at 100000", r.x().drift(0), OUTSIDE);
        due("drift(61) at 100000", r.x().drift(61), OUTSIDE);
        due("told(5)", r.x().told(5), 100000);
        Run d = late(99999);
        d.x().drift(60);
        due("told(5), drift(60) at 99999", d.x().told(5), 100059);
        due("drift(60) at 100059", d.x().drift(60), FULL);
        d.x().undo();
        d.x().drift(1);
        due("told(5), drift(1) at 99999", d.x().told(5), 100000);
        due("drift(1) at 100000", d.x().drift(1), FULL);
        d.feed("x10 1;");
        d.x().fair();
        due("hour(1) of a new FAIR", d.x().hour(1), 1);
    }

    private static void skills() {
        says("0 none ever; 1 work / 100; 2 work / 50, 40 at most; 3 work / 20, but half of what is above 30 (cut); "
            + "4 work / 100, and the YEARS of its age / 10.");
        int[][] due = {
            {0, 0, 0, 0, 0, 0}, {19, 0, 0, 0, 0, 0}, {20, 0, 0, 0, 1, 0}, {39, 0, 0, 0, 1, 0}, {40, 0, 0, 0, 2, 0}, {49, 0, 0, 0, 2, 0},
            {50, 0, 0, 1, 2, 0}, {99, 0, 0, 1, 4, 0}, {100, 0, 1, 2, 5, 1}, {580, 0, 5, 11, 29, 5}, {599, 0, 5, 11, 29, 5},
            {600, 0, 6, 12, 30, 6}, {619, 0, 6, 12, 30, 6}, {620, 0, 6, 12, 30, 6}, {639, 0, 6, 12, 30, 6}, {640, 0, 6, 12, 31, 6},
            {660, 0, 6, 13, 31, 6}, {679, 0, 6, 13, 31, 6}, {680, 0, 6, 13, 32, 6}, {999, 0, 9, 19, 39, 9}, {1000, 0, 10, 20, 40, 11},
            {1949, 0, 19, 38, 63, 20}, {1999, 0, 19, 39, 64, 20}, {2000, 0, 20, 40, 65, 22}, {2049, 0, 20, 40, 66, 22},
            {2050, 0, 20, 40, 66, 22}, {9999, 0, 99, 40, 264, 108}, {10000, 0, 100, 40, 265, 110}};
        Run r = new Run("x10 8;g0 0;g0 1;g0 2;g0 3;g0 4;").boarded(0, 1, 2, 3, 4);
        int work = 0;
        for (int[] d : due) {
            r.hours(d[0] - work);
            work = d[0];
            int band = 0;
            for (int g = 0; g < 5; g++) {
                due("goer(" + g + ", 4) of " + work, r.x().goer(g, 4), d[g + 1]);
                band += d[g + 1];
            }
            due("told(12) of " + work, r.x().told(12), band);
        }
        Run old = new Run("x10 8;g9 4;g10 4;g19 4;g20 4;g99 4;g99 3;g99 2;g99 1;");
        int[] skills = {0, 1, 1, 2, 9, 0, 0, 0};
        for (int g = 0; g < 8; g++) {
            due("goer(" + g + ", 4) without work", old.x().goer(g, 4), skills[g]);
        }
        old.hours(99);
        due("goer(0, 4) on the ground, 9 YEARS yet", old.x().goer(0, 4), 0);
        old.hours(1);
        due("goer(0, 4) on the ground, 10 YEARS", old.x().goer(0, 4), 1);
        due("goer(4, 4) on the ground, 100 YEARS", old.x().goer(4, 4), 10);
    }

    private static void band() {
        says("BAND: SKILL of all GOERS in THE CAR, or set down, together.");
        due("told(12) without a FAIR", new Run().x().told(12), 0);
        Run r = new Run("x10 2;g99 4;g50 4;g20 4;");
        due("told(12), all on the ground", r.x().told(12), 0);
        r.joined(0, 1, 2);
        due("told(12), all in THE QUEUE", r.x().told(12), 0);
        r.boarded();
        due("told(12), two in THE CAR at 0", r.x().told(12), 14);
        r.at(1);
        r.x().off(0);
        due("told(12), one set down", r.x().told(12), 14);
        r.at(0).boarded();
        due("told(12), all up", r.x().told(12), 16);
        r.x().alight();
        due("told(12), one up", r.x().told(12), 9);
    }

    private static void pulls() {
        says("It PULLS, if THE CAR is at THE END.");
        due("told(7) without a FAIR", new Run().x().told(7), 0);
        Run r = new Run("x10 2;");
        due("told(7) at 0", r.x().told(7), 0);
        r.at(9);
        due("told(7) at 9", r.x().told(7), 0);
        r.at(10);
        due("told(7) at 10", r.x().told(7), 1);
        r.x().undo();
        due("told(7), undone", r.x().told(7), 0);
    }

    private static void told() {
        says("`int told(int what)`: 0 E, 1 C, 2 LAYERS, 3 GOERS, 4 letters of THE TEXT, 5 HOURS, 6 the height of THE CAR, 7 1 it PULLS, 0 not, "
            + "8 GOERS in THE QUEUE, 9 in THE CAR, 10 set down (SETS of GOERS), 11 GOT, 12 BAND, 13 YOUNGEST, 14 OLDEST, 15 TAKINGS, "
            + "16 what is SEEN, 17 what is FELT, 18 entries of THE BOOK, 19 how many can be undone. OUTSIDE.");
        Run rich = new Run("x11 3;l11 2;l12 3;g20 4;g30 4;g10 4;g40 1;p7;").boarded(0, 1).joined(3, 2).at(11);
        rich.x().off(1);
        rich.hours(13);
        rich.x().see(1, 1, true);
        rich.x().feel(1, 0);
        rich.x().feel(2, 0);
        rich.x().write(0, 20);
        rich.x().write(0, 20);
        rich.x().write(0, 20);
        rich.feed("x20 1");
        int[] due = {11, 3, 2, 4, 5, 13, 11, 1, 12, 1, 2, 14, 5, 2, 3, 14, 1, 2, 3, 8};
        for (int what = 0; what < 20; what++) {
            due("told(" + what + ")", rich.x().told(what), due[what]);
        }
        int[] outside = {-1, 20, LEAST, MOST};
        Run r = new Run("x10 2;");
        Run none = new Run();
        for (int what : outside) {
            due("told(" + what + ")", r.x().told(what), OUTSIDE);
            due("told(" + what + ") without a FAIR", none.x().told(what), OUTSIDE);
        }
        due("told(0)", r.x().told(0), 10);
        due("told(19)", r.x().told(19), 0);
        says("YOUNGEST, OLDEST: GOERS by HOURS; of like ones the least; NONE.");
        due("told(13) without GOERS", r.x().told(13), NONE);
        due("told(14) without GOERS", r.x().told(14), NONE);
        due("told(13) without a FAIR", none.x().told(13), NONE);
        due("told(14) without a FAIR", none.x().told(14), NONE);
        Run one = new Run("x10 2;g4 0;");
        due("told(13) of one", one.x().told(13), 0);
        due("told(14) of one", one.x().told(14), 0);
        Run like = new Run("x10 2;g5 0;g4 0;g4 0;g9 0;g9 0;g5 0;");
        due("told(13) of like ones", like.x().told(13), 1);
        due("told(14) of like ones", like.x().told(14), 3);
        Run close = new Run("x10 2;l1 2;g4 0;g4 0;g4 0;").boarded(2).at(1).hours(1);
        due("told(13), by an HOUR", close.x().told(13), 0);
        due("told(14), by an HOUR", close.x().told(14), 2);
        Run last = new Run("x10 8;g9 0;g9 0;g9 0;g9 0;g9 0;g9 0;g9 0;g8 0;");
        due("told(13), the eighth", last.x().told(13), 7);
        says("TAKINGS: PRICE times all that are in THE QUEUE.");
        Run full = new Run("x10 1;p99;" + EIGHT);
        due("told(15) of none", full.x().told(15), 0);
        full.joined(0, 1, 2, 3, 4, 5, 6, 7);
        due("told(15) of all", full.x().told(15), 792);
        full.boarded();
        due("told(15), one boarded", full.x().told(15), 693);
        full.x().leave(7);
        due("told(15), one left", full.x().told(15), 594);
    }
}
