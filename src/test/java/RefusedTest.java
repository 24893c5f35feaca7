import java.util.ArrayList;
import java.util.List;
import java.util.function.Function;
import java.util.function.Supplier;
import java.util.function.ToIntFunction;

/**
 * What is refused changes nothing, nor does what is asked or tried: behind each such call an object answers all that
 * can be asked just as one does that was not called so; and of several refusals the first in the order is answered.
 */
public final class RefusedTest extends Sentences {
    private static final int UNKNOWN = -1000000001, OUTSIDE = -1000000002, NOT = -1000000003, FULL = -1000000004;
    private static final int LEAST = Integer.MIN_VALUE, MOST = Integer.MAX_VALUE;
    private static final int ANY = 1;

    /** A call and what is due, ANY if it is only asked. */
    private record Call(String name, int due, ToIntFunction<CaptiveCar> by) {
    }

    private static final List<Call> calls = new ArrayList<>();

    private static void call(int due, String name, ToIntFunction<CaptiveCar> by) {
        calls.add(new Call(name, due, by));
    }

    public static void main(String[] args) {
        says("What is refused changes nothing.");
        refusedWithoutFair();
        unchanged("without a FAIR", RefusedTest::without);
        refusedInTheMidst();
        unchanged("in the midst", RefusedTest::midst);
        refusedAtGround();
        unchanged("at 0", RefusedTest::ground);
        refusedLate();
        unchanged("late", RefusedTest::late);
        order();
        says("TRIED from now, as nothing else is done; nothing changes by it.");
        asked();
        unchanged("in the midst", RefusedTest::midst);
        asked();
        unchanged("at 0", RefusedTest::ground);
        asked();
        unchanged("without a FAIR", RefusedTest::without);
        end();
    }

    private static void order() {
        says("REFUSALS, of several the first in this order: UNKNOWN (a GOER, IMAGE that there is not; bits of such; one twice, where two are asked), "
            + "OUTSIDE (another number out of its bounds), NOT (not now, as told), FULL.");
        due("speed(901), OUTSIDE and NOT", without().x().speed(901), OUTSIDE);
        due("hour(501), OUTSIDE and NOT", without().x().hour(501), OUTSIDE);
        due("drift(61), OUTSIDE and NOT", without().x().drift(61), OUTSIDE);
        due("hour(0), OUTSIDE and FULL", late().x().hour(0), OUTSIDE);
        due("drift(0), OUTSIDE and FULL", late().x().drift(0), OUTSIDE);
        due("feed(256), OUTSIDE and FULL", ground().x().feed(256), OUTSIDE);
        due("see(901, 1, true), OUTSIDE and FULL", midst().x().see(901, 1, true), OUTSIDE);
        due("see(0, 61, true), OUTSIDE and FULL", midst().x().see(0, 61, true), OUTSIDE);
        due("feel(0, 0), OUTSIDE and FULL", midst().x().feel(0, 0), OUTSIDE);
        due("feel(1, 3), OUTSIDE and FULL", midst().x().feel(1, 3), OUTSIDE);
        due("write(7, 1), UNKNOWN and FULL", midst().x().write(7, 1), UNKNOWN);
        due("write(7, -1), UNKNOWN, OUTSIDE and FULL", midst().x().write(7, -1), UNKNOWN);
        due("write(0, -1), OUTSIDE and FULL", midst().x().write(0, -1), OUTSIDE);
        due("fetch(7), UNKNOWN, the car full", midst().x().fetch(7), UNKNOWN);
        due("fetch(0), NOT at this height and FULL", midst().x().fetch(0), NOT);
        due("fetch(4), NOT set down and FULL", midst().x().fetch(4), NOT);
        due("off(4), UNKNOWN, the car at 0", ground().x().off(4), UNKNOWN);
        due("goer(7, 7), UNKNOWN and OUTSIDE", midst().x().goer(7, 7), UNKNOWN);
        due("age(7, 501), UNKNOWN and OUTSIDE", midst().x().age(7, 501), UNKNOWN);
        due("let(7, 0, -1, 2), UNKNOWN and OUTSIDE", midst().x().let(7, 0, -1, 2), UNKNOWN);
        due("same(7, 0, 2), UNKNOWN and OUTSIDE", midst().x().same(7, 0, 2), UNKNOWN);
        due("same(0, 7, 2), UNKNOWN and OUTSIDE", midst().x().same(0, 7, 2), UNKNOWN);
        due("same(0, 0, 2), one twice and OUTSIDE", midst().x().same(0, 0, 2), UNKNOWN);
        due("goBack(2), UNKNOWN, none kept", new Run().x().goBack(2), UNKNOWN);
    }

    // ---- where the calls come

    /** No FAIR, but an image, a seed, things seen and felt, a text without its end. */
    private static Run without() {
        Run r = new Run();
        r.x().seed(4711);
        r.x().keep(1);
        r.x().seed(815);
        r.x().see(300, 7, true);
        r.x().see(200, 7, false);
        r.x().feel(40, 0);
        return r.feed("x40 2;g7 4");
    }

    /** Goers on the ground, in the queue, in a full car, set down there and elsewhere; all that can be full is full. */
    private static Run midst() {
        Run r = new Run("x40 2;l5 3;l20 9;g20 1;g30 2;g40 3;g50 4;g60 2;g70 4;g80 0;p7;");
        r.boarded(0, 1).hours(3).at(7);
        r.x().off(0);
        r.at(0).boarded(2).hours(20).at(20);
        r.x().off(2);
        r.at(0).joined(4).boarded(3).hours(50);
        r.x().seed(99);
        r.x().keep(0);
        // Seventeen from here on, so that the first is lost.
        r.joined(5).at(3).at(20).hours(7).at(4).hours(1);
        r.x().leave(5);
        r.joined(5);
        r.x().drift(1);
        r.x().seed(1234);
        r.at(39).at(0).boarded().at(20).hours(60).hours(2).at(19).at(20).hours(11);
        findings(r);
        return r.feed("x50 3;g1 2");
    }

    private static void findings(Run r) {
        int[][] seen = {{900, 5, 1}, {10, 5, 0}, {300, 3, 1}, {0, 1, 1}, {100, 2, 0}, {250, 9, 0}};
        for (int[] s : seen) {
            r.x().see(s[0], s[1], s[2] == 1);
        }
        int[][] felt = {{100, 0}, {500, 2}, {200, 0}, {499, 2}, {201, 0}, {400, 2}};
        for (int[] f : felt) {
            r.x().feel(f[0], f[1]);
        }
        for (int i = 0; i < 15; i++) {
            r.x().write(i % 6, i < 9 ? r.x().goer(i % 6, 0) : i);
        }
    }

    /** The car at 0, full, some waiting, image 1 kept, a text of 240 letters. */
    private static Run ground() {
        Run r = new Run("x40 2;l5 3;g20 1;g30 2;g40 3;g50 4;").boarded(2, 0).joined(3).hours(5);
        r.x().keep(1);
        r.joined(1);
        r.x().seed(31);
        r.x().see(300, 7, true);
        r.x().feel(40, 0);
        r.x().write(1, 30);
        r.x().write(2, 41);
        return r.feed("x40 2;" + " ".repeat(230) + "g1 1");
    }

    private static Run late() {
        Run r = new Run("x40 2;l5 3;g20 1;g30 2;g40 3;g50 4;").boarded(2, 0).joined(3).at(9).hours(99999);
        r.x().seed(31);
        r.x().keep(0);
        r.x().hour(1);
        return r;
    }

    // ---- what is refused

    private static void refusedWithoutFair() {
        int[] goers = {LEAST, -1, 0, 1, 7, 8, MOST};
        for (int g : goers) {
            ofGoers(UNKNOWN, g);
        }
        beyondAll();
        call(NOT, "speed(0)", x -> x.speed(0));
        call(NOT, "board()", x -> x.board());
        call(NOT, "alight()", x -> x.alight());
        call(NOT, "car(0)", x -> x.car(0));
        call(OUTSIDE, "car(1)", x -> x.car(1));
        call(NOT, "hour(1)", x -> x.hour(1));
        call(NOT, "hour(500)", x -> x.hour(500));
        call(NOT, "drift(1)", x -> x.drift(1));
        call(NOT, "drift(60)", x -> x.drift(60));
        call(NOT, "undo()", x -> x.undo());
        call(NOT, "goBack(0)", x -> x.goBack(0));
    }

    private static void refusedInTheMidst() {
        int[] unknown = {LEAST, -1, 7, 8, MOST};
        for (int g : unknown) {
            ofGoers(UNKNOWN, g);
        }
        beyondAll();
        ofKnownGoer();
        call(OUTSIDE, "car(41)", x -> x.car(41));
        call(NOT, "car(20)", x -> x.car(20));
        call(NOT, "board()", x -> x.board());
        call(NOT, "alight()", x -> x.alight());
        call(NOT, "join(0), set down", x -> x.join(0));
        call(NOT, "join(3), in the queue", x -> x.join(3));
        call(NOT, "join(4), in the car", x -> x.join(4));
        call(NOT, "leave(6), on the ground", x -> x.leave(6));
        call(NOT, "off(6), on the ground", x -> x.off(6));
        call(NOT, "fetch(6), on the ground", x -> x.fetch(6));
        call(NOT, "leave(0), set down", x -> x.leave(0));
        call(NOT, "leave(4), in the car", x -> x.leave(4));
        call(NOT, "off(0), set down", x -> x.off(0));
        call(NOT, "off(3), in the queue", x -> x.off(3));
        call(NOT, "fetch(0), elsewhere", x -> x.fetch(0));
        call(NOT, "fetch(3), in the queue", x -> x.fetch(3));
        call(NOT, "fetch(4), in the car", x -> x.fetch(4));
        call(FULL, "fetch(2), no room", x -> x.fetch(2));
        call(FULL, "see(900, 60, true)", x -> x.see(900, 60, true));
        call(FULL, "see(0, 1, false)", x -> x.see(0, 1, false));
        call(FULL, "feel(1, 0)", x -> x.feel(1, 0));
        call(FULL, "feel(900, 2)", x -> x.feel(900, 2));
        call(FULL, "write(0, 0)", x -> x.write(0, 0));
        call(FULL, "write(5, 999999)", x -> x.write(5, 999999));
        call(NOT, "goBack(1)", x -> x.goBack(1));
    }

    private static void refusedAtGround() {
        beyondAll();
        ofKnownGoer();
        call(FULL, "feed(0)", x -> x.feed(0));
        call(FULL, "feed(';')", x -> x.feed(';'));
        call(FULL, "feed(255)", x -> x.feed(255));
        call(NOT, "car(0)", x -> x.car(0));
        call(NOT, "off(2), at 0", x -> x.off(2));
        call(NOT, "off(1), in the queue", x -> x.off(1));
        call(NOT, "fetch(2), in the car", x -> x.fetch(2));
        call(NOT, "join(2), in the car", x -> x.join(2));
        call(NOT, "leave(2), in the car", x -> x.leave(2));
        call(NOT, "goBack(0)", x -> x.goBack(0));
    }

    private static void refusedLate() {
        call(FULL, "hour(1)", x -> x.hour(1));
        call(FULL, "hour(500)", x -> x.hour(500));
        call(FULL, "drift(1)", x -> x.drift(1));
        call(FULL, "drift(60)", x -> x.drift(60));
        call(OUTSIDE, "hour(0)", x -> x.hour(0));
        call(OUTSIDE, "hour(501)", x -> x.hour(501));
        call(OUTSIDE, "drift(0)", x -> x.drift(0));
        call(OUTSIDE, "drift(61)", x -> x.drift(61));
    }

    /** All calls that name a goer, the other numbers in their bounds, then out of them. */
    private static void ofGoers(int due, int g) {
        call(due, "goer(" + g + ", 0)", x -> x.goer(g, 0));
        call(due, "goer(" + g + ", 7)", x -> x.goer(g, 7));
        call(due, "join(" + g + ")", x -> x.join(g));
        call(due, "leave(" + g + ")", x -> x.leave(g));
        call(due, "off(" + g + ")", x -> x.off(g));
        call(due, "fetch(" + g + ")", x -> x.fetch(g));
        call(due, "age(" + g + ", 0)", x -> x.age(g, 0));
        call(due, "age(" + g + ", 501)", x -> x.age(g, 501));
        call(due, "let(" + g + ", 1, 0, 0)", x -> x.let(g, 1, 0, 0));
        call(due, "let(" + g + ", 0, 0, 0)", x -> x.let(g, 0, 0, 0));
        call(due, "let(" + g + ", 1, -1, 0)", x -> x.let(g, 1, -1, 0));
        call(due, "let(" + g + ", 1, 0, 2)", x -> x.let(g, 1, 0, 2));
        call(due, "same(" + g + ", 0, 0)", x -> x.same(g, 0, 0));
        call(due, "same(0, " + g + ", 1)", x -> x.same(0, g, 1));
        call(due, "same(" + g + ", 1, 2)", x -> x.same(g, 1, 2));
        call(due, "same(1, " + g + ", -1)", x -> x.same(1, g, -1));
        call(due, "same(" + g + ", " + g + ", 0)", x -> x.same(g, g, 0));
        call(due, "waits(" + g + ")", x -> x.waits(g));
        call(due, "write(" + g + ", 0)", x -> x.write(g, 0));
        call(due, "write(" + g + ", -1)", x -> x.write(g, -1));
        call(due, "write(" + g + ", 1000000)", x -> x.write(g, 1000000));
    }

    /** A goer that there is, with another number out of its bounds; and one twice. */
    private static void ofKnownGoer() {
        int[] far = {LEAST, -1, MOST};
        for (int v : far) {
            call(OUTSIDE, "goer(1, " + v + ")", x -> x.goer(1, v));
            call(OUTSIDE, "age(1, " + v + ")", x -> x.age(1, v));
            call(OUTSIDE, "let(1, " + v + ", 0, 0)", x -> x.let(1, v, 0, 0));
            call(OUTSIDE, "let(1, 1, " + v + ", 0)", x -> x.let(1, 1, v, 0));
            call(OUTSIDE, "let(1, 1, 0, " + v + ")", x -> x.let(1, 1, 0, v));
            call(OUTSIDE, "same(1, 2, " + v + ")", x -> x.same(1, 2, v));
            call(OUTSIDE, "write(1, " + v + ")", x -> x.write(1, v));
        }
        call(OUTSIDE, "goer(1, 7)", x -> x.goer(1, 7));
        call(OUTSIDE, "age(1, 501)", x -> x.age(1, 501));
        call(OUTSIDE, "let(1, 0, 0, 0)", x -> x.let(1, 0, 0, 0));
        call(OUTSIDE, "let(1, 501, 0, 0)", x -> x.let(1, 501, 0, 0));
        call(OUTSIDE, "let(1, 1, 1000, 0)", x -> x.let(1, 1, 1000, 0));
        call(OUTSIDE, "let(1, 1, 0, 2)", x -> x.let(1, 1, 0, 2));
        call(OUTSIDE, "same(1, 2, 2)", x -> x.same(1, 2, 2));
        call(OUTSIDE, "write(1, 1000000)", x -> x.write(1, 1000000));
        call(UNKNOWN, "same(1, 1, 0)", x -> x.same(1, 1, 0));
        call(UNKNOWN, "same(1, 1, 2)", x -> x.same(1, 1, 2));
    }

    /** Numbers out of bounds that hold everywhere, whatever else would be refused. */
    private static void beyondAll() {
        int[] far = {LEAST, -1, MOST};
        for (int v : far) {
            call(OUTSIDE, "feed(" + v + ")", x -> x.feed(v));
            call(OUTSIDE, "told(" + v + ")", x -> x.told(v));
            call(OUTSIDE, "speed(" + v + ")", x -> x.speed(v));
            call(OUTSIDE, "car(" + v + ")", x -> x.car(v));
            call(OUTSIDE, "hour(" + v + ")", x -> x.hour(v));
            call(OUTSIDE, "drift(" + v + ")", x -> x.drift(v));
            call(OUTSIDE, "best(" + v + ")", x -> x.best(v));
            call(OUTSIDE, "bestPrice(" + v + ", 0)", x -> x.bestPrice(v, 0));
            call(OUTSIDE, "bestPrice(1, " + v + ")", x -> x.bestPrice(1, v));
            call(OUTSIDE, "wind(" + v + ", 1)", x -> x.wind(v, 1));
            call(OUTSIDE, "wind(1, " + v + ")", x -> x.wind(1, v));
            call(OUTSIDE, "see(" + v + ", 1, true)", x -> x.see(v, 1, true));
            call(OUTSIDE, "see(0, " + v + ", false)", x -> x.see(0, v, false));
            call(OUTSIDE, "laws(" + v + ")", x -> x.laws(v));
            call(OUTSIDE, "feel(" + v + ", 1)", x -> x.feel(v, 1));
            call(OUTSIDE, "feel(1, " + v + ")", x -> x.feel(1, v));
            call(OUTSIDE, "ends(" + v + ")", x -> x.ends(v));
            call(UNKNOWN, "keep(" + v + ")", x -> x.keep(v));
            call(UNKNOWN, "goBack(" + v + ")", x -> x.goBack(v));
        }
        call(OUTSIDE, "feed(256)", x -> x.feed(256));
        call(OUTSIDE, "told(20)", x -> x.told(20));
        call(OUTSIDE, "speed(901)", x -> x.speed(901));
        call(OUTSIDE, "hour(0)", x -> x.hour(0));
        call(OUTSIDE, "hour(501)", x -> x.hour(501));
        call(OUTSIDE, "drift(0)", x -> x.drift(0));
        call(OUTSIDE, "drift(61)", x -> x.drift(61));
        call(OUTSIDE, "see(901, 1, true)", x -> x.see(901, 1, true));
        call(OUTSIDE, "see(0, 0, true)", x -> x.see(0, 0, true));
        call(OUTSIDE, "see(0, 61, true)", x -> x.see(0, 61, true));
        call(OUTSIDE, "feel(0, 1)", x -> x.feel(0, 1));
        call(OUTSIDE, "feel(901, 1)", x -> x.feel(901, 1));
        call(OUTSIDE, "feel(1, 3)", x -> x.feel(1, 3));
        call(UNKNOWN, "keep(2)", x -> x.keep(2));
        call(UNKNOWN, "goBack(2)", x -> x.goBack(2));
        call(OUTSIDE, "seed(-1)", x -> x.seed(-1));
        call(OUTSIDE, "seed(-2147483648)", x -> x.seed(LEAST));
    }

    /** All that is asked or tried and not refused, with a FAIR or without; of GOERS the UNKNOWN is an answer too. */
    private static void asked() {
        for (int v = 0; v < 20; v++) {
            int what = v;
            call(ANY, "told(" + v + ")", x -> x.told(what));
        }
        for (int v = 0; v < 3; v++) {
            int what = v;
            call(ANY, "goer(1, " + v + ")", x -> x.goer(1, what));
            call(ANY, "was(1, 100, 3, " + v + ")", x -> x.was(1, 100, 3, what));
            call(ANY, "laws(" + v + ")", x -> x.laws(what));
            call(ANY, "ends(" + v + ")", x -> x.ends(what));
            call(ANY, "waits(" + v + ")", x -> x.waits(what));
            call(ANY, "front(" + v + ")", x -> x.front(what));
            call(ANY, "let(" + v + ", 500, 25, 0)", x -> x.let(what, 500, 25, 0));
            call(ANY, "age(" + v + ", 500)", x -> x.age(what, 500));
            call(ANY, "best(" + v % 2 + ")", x -> x.best(what % 2));
            call(ANY, "same(0, 1, " + v % 2 + ")", x -> x.same(0, 1, what % 2));
            call(ANY, "bestPrice(20, " + v % 2 + ")", x -> x.bestPrice(20, what % 2));
        }
        call(ANY, "fault()", x -> x.fault());
        call(ANY, "speed(40)", x -> x.speed(40));
        call(ANY, "meet(7, 9, 1, 2)", x -> x.meet(7, 9, 1, 2));
        call(ANY, "wind(60, 99)", x -> x.wind(60, 99));
        call(ANY, "yard()", x -> x.yard());
        call(ANY, "judge()", x -> x.judge());
    }

    // ---- all that can be asked of an object

    private static final List<Function<Run, String>> VIEWS = List.of(RefusedTest::state, RefusedTest::findingsOf, RefusedTest::pastOf,
        r -> imageOf(r, 0), r -> imageOf(r, 1), RefusedTest::seedOf, RefusedTest::drawsOf, RefusedTest::textOf, RefusedTest::tornOf);

    /** Each call on an object made so; behind it all views are as they are of one that was made so and not called. */
    private static void unchanged(String where, Supplier<Run> made) {
        List<String> is = new ArrayList<>();
        for (Function<Run, String> view : VIEWS) {
            is.add(view.apply(made.get()));
        }
        for (Call call : calls) {
            for (int i = 0; i < VIEWS.size(); i++) {
                Run r = made.get();
                int answer = call.by.applyAsInt(r.x());
                if (call.due != ANY) {
                    due(call.name + " " + where, answer, call.due);
                }
                due(call.name + " " + where, VIEWS.get(i).apply(r), is.get(i));
            }
        }
        calls.clear();
    }

    private static String state(Run r) {
        StringBuilder b = new StringBuilder("told");
        for (int what = 0; what < 20; what++) {
            b.append(" ").append(r.x().told(what));
        }
        for (int g = 0; g < 7; g++) {
            b.append(", goer");
            for (int what = 0; what < 7; what++) {
                b.append(" ").append(r.x().goer(g, what));
            }
            b.append(" front ").append(r.x().front(g));
        }
        return b.append(", speed ").append(r.x().speed(20)).append(", fault ").append(r.x().fault()).toString();
    }

    private static String findingsOf(Run r) {
        StringBuilder b = new StringBuilder("laws");
        for (int what = 0; what < 3; what++) {
            b.append(" ").append(r.x().laws(what)).append(" ").append(r.x().ends(what + 1));
        }
        return b.append(", yard ").append(r.x().yard()).append(", judge ").append(r.x().judge()).toString();
    }

    /** Judged at each step of the past, so that more than one entry of the book is looked at. */
    private static String pastOf(Run r) {
        StringBuilder b = new StringBuilder("undo");
        for (int i = 0; i < 17; i++) {
            b.append(" ").append(r.x().undo()).append(":");
            for (int what = 5; what <= 12; what++) {
                b.append(" ").append(r.x().told(what));
            }
            b.append(" ").append(r.x().judge()).append(";");
        }
        return b.toString();
    }

    private static String imageOf(Run r, int i) {
        return "goBack " + r.x().goBack(i) + ": " + state(r) + " " + seedOf(r);
    }

    private static String seedOf(Run r) {
        return "seed " + r.x().seed(0);
    }

    private static String drawsOf(Run r) {
        return "drift " + r.x().drift(60) + ": " + state(r) + " " + seedOf(r);
    }

    private static String textOf(Run r) {
        return "feed " + r.x().feed(';') + ", fair " + r.x().fair() + ", fault " + r.x().fault() + ": " + state(r);
    }

    private static String tornOf(Run r) {
        return "tear " + r.x().tear() + ": " + findingsOf(r);
    }
}
