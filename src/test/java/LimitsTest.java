import java.lang.reflect.Field;

/**
 * The two limits of section 2 that no run of 512 calls reaches (NOTES.md says why): the object is put just below them
 * from within, and goes on by calls from there.
 */
public final class LimitsTest extends Sentences {
    private static final int NONE = -1;

    public static void main(String[] args) throws ReflectiveOperationException {
        got();
        ages();
        agesTried();
        end();
    }

    private static Object within(Object of, String name) throws ReflectiveOperationException {
        Field field = of.getClass().getDeclaredField(name);
        field.setAccessible(true);
        return field.get(of);
    }

    private static void putGot(Run r, int got) throws ReflectiveOperationException {
        Object now = within(r.x(), "now");
        Field field = now.getClass().getDeclaredField("got");
        field.setAccessible(true);
        field.setInt(now, got);
    }

    private static void putAge(Run r, int g, int hours) throws ReflectiveOperationException {
        ((int[]) within(within(r.x(), "now"), "ages"))[g] = hours;
    }

    private static void got() throws ReflectiveOperationException {
        says("each pays PRICE (GOT is counted, 999999 at most)");
        int[][] due = {{999974, 999998}, {999975, 999999}, {999976, 999999}, {999999, 999999}};
        for (int[] d : due) {
            Run r = new Run("x10 2;g1 1;g2 2;").joined(0, 1);
            putGot(r, d[0]);
            due("board()", r.x().board(), 2);
            due("told(11) of " + d[0], r.x().told(11), d[1]);
            due("undo()", r.x().undo(), 2);
            due("told(11), undone", r.x().told(11), d[0]);
            // Of this seed the first DRAW of 5 is 1, so all that can board.
            r.x().seed(6);
            due("drift(1)", r.x().drift(1), d[1]);
            due("told(9)", r.x().told(9), 3);
        }
    }

    private static void ages() throws ReflectiveOperationException {
        says("A times 100 at first; a YEAR here has 100 HOURS; 99999999 at most");
        int[][] due = {{99999938, 99999998}, {99999939, 99999999}, {99999940, 99999999}, {99999999, 99999999}};
        for (int[] d : due) {
            Run r = new Run("x10 1;l1 60;g1 1;g1 1;").boarded(0).at(1);
            putAge(r, 0, d[0]);
            putAge(r, 1, 99999998);
            r.x().hour(1);
            due("goer(0, 1) of " + d[0], r.x().goer(0, 1), d[1]);
            due("goer(0, 3), the work goes on", r.x().goer(0, 3), 60);
            due("goer(1, 1) on the ground", r.x().goer(1, 1), 99999999);
            r.x().hour(500);
            due("goer(0, 1)", r.x().goer(0, 1), 99999999);
            due("goer(1, 1)", r.x().goer(1, 1), 99999999);
            due("goer(0, 0)", r.x().goer(0, 0), 999999);
            due("goer(0, 3)", r.x().goer(0, 3), 30060);
            r.x().write(0, 999999);
            due("judge()", r.x().judge(), NONE);
        }
    }

    private static void agesTried() throws ReflectiveOperationException {
        says("TRIED from now, as nothing else is done; nothing changes by it.");
        Run r = new Run("x10 1;l1 60;g1 4;g1 1;").boarded(0).at(1);
        putAge(r, 0, 99999000);
        putAge(r, 1, 99999990);
        due("age(0, 500)", r.x().age(0, 500), 999999);
        due("age(1, 500)", r.x().age(1, 500), 999999);
        due("same(0, 1, 1), both as old as can be", r.x().same(0, 1, 1), 17);
        due("best(1)", r.x().best(1), 300 + 99999);
    }
}
