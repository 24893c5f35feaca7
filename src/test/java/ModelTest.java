import java.util.ArrayDeque;
import java.util.ArrayList;
import java.util.Arrays;
import java.util.List;
import java.util.Random;
import java.util.TreeMap;

/** Long runs of calls by a fixed seed, against a second, slow telling of the document that goes hour by hour and tries every number. */
public final class ModelTest {
    static final int NONE = -1, UNKNOWN = -1000000001, OUTSIDE = -1000000002, NOT = -1000000003, FULL = -1000000004;

    static final class Person {
        long hours;
        long work;
        String place = "ground";
        int height;

        Person copy() {
            Person p = new Person();
            p.hours = hours;
            p.work = work;
            p.place = place;
            p.height = height;
            return p;
        }
    }

    static final class World {
        int hours;
        int car;
        int got;
        List<Person> people = new ArrayList<>();
        List<Integer> queue = new ArrayList<>();

        World copy() {
            World w = new World();
            w.hours = hours;
            w.car = car;
            w.got = got;
            for (Person p : people) {
                w.people.add(p.copy());
            }
            w.queue.addAll(queue);
            return w;
        }
    }

    static final class Law {
        boolean told;
        int e;
        int c;
        int price = 12;
        boolean priceTold;
        TreeMap<Integer, Integer> layers = new TreeMap<>();
        List<int[]> people = new ArrayList<>();

        int speed(int y) {
            return layers.floorEntry(y) == null ? 1 : layers.floorEntry(y).getValue();
        }
    }

    static final class Model {
        StringBuilder text = new StringBuilder();
        int faultAt = NONE;
        Law law = new Law();
        World w = new World();
        ArrayDeque<World> undo = new ArrayDeque<>();
        World[] images = new World[2];
        long[] imageSeeds = new long[2];
        List<int[]> seen = new ArrayList<>();
        List<int[]> felt = new ArrayList<>();
        List<int[]> book = new ArrayList<>();
        long seed;

        static boolean in(int v, int lo, int hi) {
            return lo <= v && v <= hi;
        }

        boolean known(int g) {
            return in(g, 0, w.people.size() - 1);
        }

        int feed(int letter) {
            if (!in(letter, 0, 255)) {
                return OUTSIDE;
            }
            if (text.length() == 240) {
                return FULL;
            }
            text.append((char) letter);
            return text.length();
        }

        /** The first fault as {number, letter}, or null; what is told goes into the law. */
        static int[] parse(String s, Law law) {
            String expected = "";
            char word = 0;
            int[] numbers = new int[2];
            int count = 0;
            int i = 0;
            while (i < s.length()) {
                char ch = s.charAt(i);
                if (ch == ' ') {
                    i++;
                    continue;
                }
                if (expected.isEmpty()) {
                    if (!law.told ? ch != 'x' : "xlgp".indexOf(ch) < 0) {
                        return new int[] {1, i};
                    }
                    if (ch == 'x' && law.told || ch == 'p' && law.priceTold || ch == 'l' && law.layers.size() == 6
                            || ch == 'g' && law.people.size() == 8) {
                        return new int[] {3, i};
                    }
                    word = ch;
                    count = 0;
                    expected = ch == 'p' ? "n;" : "nn;";
                    i++;
                } else if (expected.charAt(0) == 'n') {
                    int j = i;
                    while (j < s.length() && "0123456789".indexOf(s.charAt(j)) >= 0) {
                        j++;
                    }
                    if (j == i) {
                        return new int[] {1, i};
                    }
                    if (j - i >= 4) {
                        return new int[] {2, i};
                    }
                    int v = Integer.parseInt(s.substring(i, j));
                    int[] bounds = count == 0
                            ? word == 'x' ? new int[] {10, 900} : word == 'l' ? new int[] {1, 900} : word == 'g' ? new int[] {0, 99} : new int[] {1, 99}
                            : word == 'x' ? new int[] {1, 8} : word == 'l' ? new int[] {2, 60} : new int[] {0, 4};
                    if (!in(v, bounds[0], bounds[1])) {
                        return new int[] {2, i};
                    }
                    if (word == 'l' && count == 0 && !law.layers.isEmpty() && v <= law.layers.lastKey()) {
                        return new int[] {4, i};
                    }
                    numbers[count++] = v;
                    expected = expected.substring(1);
                    i = j;
                } else {
                    if (ch != ';') {
                        return new int[] {1, i};
                    }
                    if (word == 'x') {
                        law.told = true;
                        law.e = numbers[0];
                        law.c = numbers[1];
                    } else if (word == 'l') {
                        law.layers.put(numbers[0], numbers[1]);
                    } else if (word == 'g') {
                        law.people.add(new int[] {numbers[0], numbers[1]});
                    } else {
                        law.price = numbers[0];
                        law.priceTold = true;
                    }
                    expected = "";
                    i++;
                }
            }
            return expected.isEmpty() ? null : new int[] {1, s.length()};
        }

        int fair() {
            Law next = new Law();
            int[] fault = parse(text.toString(), next);
            text.setLength(0);
            if (fault != null) {
                faultAt = fault[1];
                return -10 - fault[0];
            }
            faultAt = NONE;
            law = next;
            w = new World();
            for (int[] told : law.people) {
                Person p = new Person();
                p.hours = told[0] * 100L;
                w.people.add(p);
            }
            undo.clear();
            images = new World[2];
            seen.clear();
            felt.clear();
            book.clear();
            return law.people.size();
        }

        int setOf(String place) {
            int set = 0;
            for (int g = 0; g < w.people.size(); g++) {
                set += w.people.get(g).place.equals(place) ? 1 << g : 0;
            }
            return set;
        }

        long count(String place) {
            return w.people.stream().filter(p -> p.place.equals(place)).count();
        }

        static boolean up(Person p) {
            return p.place.equals("car") || p.place.equals("down");
        }

        static long skill(int trade, Person p) {
            long w = p.work;
            if (trade == 1) {
                return w / 100;
            }
            if (trade == 2) {
                return w / 50 > 40 ? 40 : w / 50;
            }
            if (trade == 3) {
                long s = w / 20;
                long above = s > 30 ? s - 30 : 0;
                return s - above + above / 2;
            }
            return trade == 4 ? w / 100 + p.hours / 100 / 10 : 0;
        }

        static long band(World w, Law law) {
            long sum = 0;
            for (int g = 0; g < w.people.size(); g++) {
                sum += up(w.people.get(g)) ? skill(law.people.get(g)[1], w.people.get(g)) : 0;
            }
            return sum;
        }

        static int height(World w, Person p) {
            return p.place.equals("car") ? w.car : p.place.equals("down") ? p.height : 0;
        }

        void oneHour(World w) {
            for (Person p : w.people) {
                int s = law.speed(height(w, p));
                p.hours = Math.min(99999999, p.hours + (up(p) ? s : 1));
                p.work += up(p) ? s : 0;
            }
            w.hours++;
        }

        int extreme(int sign) {
            int found = NONE;
            for (int g = w.people.size() - 1; g >= 0; g--) {
                if (found < 0 || sign * Long.compare(w.people.get(g).hours, w.people.get(found).hours) >= 0) {
                    found = g;
                }
            }
            return found;
        }

        int told(int what) {
            int[] all = {law.e, law.c, law.layers.size(), w.people.size(), text.length(), w.hours, w.car,
                law.told && w.car == law.e ? 1 : 0, setOf("queue"), setOf("car"), setOf("down"), w.got, (int) band(w, law),
                extreme(-1), extreme(1), law.price * w.queue.size(), seen.size(), felt.size(), book.size(), undo.size()};
            return in(what, 0, all.length - 1) ? all[what] : OUTSIDE;
        }

        int speed(int y) {
            return !in(y, 0, 900) ? OUTSIDE : !law.told ? NOT : law.speed(y);
        }

        int goer(int g, int what) {
            if (!known(g)) {
                return UNKNOWN;
            }
            Person p = w.people.get(g);
            long[] all = {p.hours / 100, p.hours, law.people.get(g)[1], p.work, skill(law.people.get(g)[1], p),
                Arrays.asList("ground", "queue", "car", "down").indexOf(p.place), height(w, p)};
            return in(what, 0, 6) ? (int) all[what] : OUTSIDE;
        }

        int front(int n) {
            return in(n, 0, w.queue.size() - 1) ? w.queue.get(n) : NONE;
        }

        void remember() {
            undo.addLast(w.copy());
            if (undo.size() > 16) {
                undo.removeFirst();
            }
        }

        int join(int g) {
            if (!known(g)) {
                return UNKNOWN;
            }
            if (!w.people.get(g).place.equals("ground")) {
                return NOT;
            }
            remember();
            w.people.get(g).place = "queue";
            w.queue.add(g);
            return w.queue.size();
        }

        int leave(int g) {
            if (!known(g)) {
                return UNKNOWN;
            }
            if (!w.queue.contains(g)) {
                return NOT;
            }
            remember();
            w.people.get(g).place = "ground";
            w.queue.remove((Integer) g);
            return w.queue.size();
        }

        int boardAll() {
            int come = 0;
            while (!w.queue.isEmpty() && count("car") < law.c) {
                w.people.get(w.queue.remove(0)).place = "car";
                w.got = Math.min(999999, w.got + law.price);
                come++;
            }
            return come;
        }

        int board() {
            if (!law.told || w.car != 0) {
                return NOT;
            }
            remember();
            return boardAll();
        }

        int car(int y) {
            if (!in(y, 0, law.e)) {
                return OUTSIDE;
            }
            if (w.car == y) {
                return NOT;
            }
            remember();
            int was = w.car;
            w.car = y;
            return was;
        }

        int alightAll() {
            int n = 0;
            for (Person p : w.people) {
                if (p.place.equals("car")) {
                    p.place = "ground";
                    n++;
                }
            }
            return n;
        }

        int alight() {
            if (!law.told || w.car != 0) {
                return NOT;
            }
            remember();
            return alightAll();
        }

        int off(int g) {
            if (!known(g)) {
                return UNKNOWN;
            }
            if (!w.people.get(g).place.equals("car") || w.car < 1) {
                return NOT;
            }
            remember();
            w.people.get(g).place = "down";
            w.people.get(g).height = w.car;
            return (int) count("car");
        }

        int fetch(int g) {
            if (!known(g)) {
                return UNKNOWN;
            }
            if (!w.people.get(g).place.equals("down") || w.people.get(g).height != w.car) {
                return NOT;
            }
            if (count("car") == law.c) {
                return FULL;
            }
            remember();
            w.people.get(g).place = "car";
            return (int) count("car");
        }

        int hour(int n) {
            if (!in(n, 1, 500)) {
                return OUTSIDE;
            }
            if (!law.told) {
                return NOT;
            }
            if (w.hours > 99999) {
                return FULL;
            }
            remember();
            for (int i = 0; i < n; i++) {
                oneHour(w);
            }
            return w.hours;
        }

        int draw(int n) {
            seed = (seed * 1103515245L + 12345L) % (1L << 31);
            return (int) (seed / 65536 % n);
        }

        int drift(int n) {
            if (!in(n, 1, 60)) {
                return OUTSIDE;
            }
            if (!law.told) {
                return NOT;
            }
            if (w.hours > 99999) {
                return FULL;
            }
            remember();
            for (int i = 0; i < n; i++) {
                int way = draw(5);
                if (way == 0 && !w.people.isEmpty()) {
                    int g = draw(w.people.size());
                    if (w.people.get(g).place.equals("ground")) {
                        w.people.get(g).place = "queue";
                        w.queue.add(g);
                    }
                } else if (way == 1 && w.car == 0) {
                    boardAll();
                } else if (way == 2) {
                    w.car = 1 + draw(law.e);
                } else if (way == 3) {
                    w.car = 0;
                    alightAll();
                }
                oneHour(w);
            }
            return w.got;
        }

        int undo() {
            if (undo.isEmpty()) {
                return NOT;
            }
            w = undo.removeLast();
            return undo.size();
        }

        World behind(int n) {
            World then = w.copy();
            for (int i = 0; i < n; i++) {
                oneHour(then);
            }
            return then;
        }

        int age(int g, int n) {
            return !known(g) ? UNKNOWN : !in(n, 0, 500) ? OUTSIDE : (int) (behind(n).people.get(g).hours / 100);
        }

        int let(int g, int n, int a, int what) {
            if (!known(g)) {
                return UNKNOWN;
            }
            if (!in(n, 1, 500) || !in(a, 0, 999) || !in(what, 0, 1)) {
                return OUTSIDE;
            }
            List<Integer> fit = new ArrayList<>();
            for (int y = 0; y <= law.e; y++) {
                long years = (w.people.get(g).hours + (long) n * law.speed(y)) / 100;
                if (years == a) {
                    fit.add(y);
                }
            }
            return fit.isEmpty() ? NONE : fit.get(what == 0 ? 0 : fit.size() - 1);
        }

        int same(int g, int h, int what) {
            if (!known(g) || !known(h) || g == h) {
                return UNKNOWN;
            }
            if (!in(what, 0, 1)) {
                return OUTSIDE;
            }
            World then = w.copy();
            for (int n = 0; n <= 5000; n++) {
                long p = then.people.get(g).hours;
                long q = then.people.get(h).hours;
                if (what == 0 ? p / 100 == q / 100 : p == q) {
                    return n;
                }
                oneHour(then);
            }
            return NONE;
        }

        int waits(int g) {
            if (!known(g)) {
                return UNKNOWN;
            }
            List<Integer> left = new ArrayList<>(w.queue);
            for (int n = 1; left.contains(g); n++) {
                for (int i = 0; i < law.c && !left.isEmpty(); i++) {
                    if (left.remove(0) == g) {
                        return n;
                    }
                }
            }
            return NONE;
        }

        int best(int what) {
            if (!in(what, 0, 1)) {
                return OUTSIDE;
            }
            World then = w.copy();
            long most = -1;
            int at = -1;
            for (int n = 0; n <= 500; n++) {
                if (band(then, law) > most) {
                    most = band(then, law);
                    at = n;
                }
                oneHour(then);
            }
            return what == 0 ? at : (int) most;
        }

        int was(int a, int n, int b, int what) {
            if (!in(a, 0, 999) || !in(n, 1, 500) || !in(b, 0, 999) || !in(what, 0, 2)) {
                return OUTSIDE;
            }
            List<Integer> fit = new ArrayList<>();
            for (int s = 1; s <= 60; s++) {
                if (a + n * s / 100 == b) {
                    fit.add(s);
                }
            }
            return what == 0 ? fit.size() : fit.isEmpty() ? NONE : fit.get(what == 1 ? 0 : fit.size() - 1);
        }

        int meet(int a, int b, int c, int d) {
            if (!in(a, 1, 999) || !in(b, 1, 999) || !in(c, 0, 999) || !in(d, 0, 999)) {
                return OUTSIDE;
            }
            long one = c;
            long two = d;
            while (one != two && one < 3000000) {
                if (one < two) {
                    one += a;
                } else {
                    two += b;
                }
            }
            return one == two ? (int) one : NONE;
        }

        int bestPrice(int d, int what) {
            if (!in(d, 1, 20) || !in(what, 0, 1)) {
                return OUTSIDE;
            }
            int[] pay = new int[100];
            for (int p = 1; p <= 99; p++) {
                int left = w.queue.size();
                for (int over = 12 + d; over <= p && left > 0; over += d) {
                    left--;
                }
                pay[p] = left * p;
            }
            int at = 1;
            for (int p = 99; p >= 1; p--) {
                at = pay[p] >= pay[at] ? p : at;
            }
            return what == 0 ? at : pay[at];
        }

        int wind(int n, int q) {
            if (!in(n, 0, 60) || !in(q, 0, 100)) {
                return OUTSIDE;
            }
            long v = 1000000000;
            while (n-- > 0) {
                v = v * q / 100;
            }
            return (int) v;
        }

        int see(int y, int s, boolean more) {
            if (!in(y, 0, 900) || !in(s, 1, 60)) {
                return OUTSIDE;
            }
            if (seen.size() == 6) {
                return FULL;
            }
            seen.add(new int[] {y, s, more ? 1 : 0});
            return seen.size();
        }

        List<int[]> pairs() {
            List<int[]> fit = new ArrayList<>();
            for (int y = 1; y <= 900; y++) {
                for (int k = 2; k <= 60; k++) {
                    boolean all = true;
                    for (int[] s : seen) {
                        int went = s[0] >= y ? k : 1;
                        all &= went >= s[1] == (s[2] == 1);
                    }
                    if (all) {
                        fit.add(new int[] {y, k});
                    }
                }
            }
            return fit;
        }

        int laws(int what) {
            if (!in(what, 0, 2)) {
                return OUTSIDE;
            }
            List<int[]> fit = pairs();
            return what == 0 ? fit.size() : fit.isEmpty() ? NONE : fit.get(0)[what - 1];
        }

        int yard() {
            List<int[]> fit = pairs();
            int at = NONE;
            int least = Integer.MAX_VALUE;
            for (int v = 10; v <= 900; v += 10) {
                int below = 0;
                for (int[] pair : fit) {
                    below += v < pair[0] ? 1 : 0;
                }
                int rest = fit.size() - below;
                if (below > 0 && rest > 0 && Math.max(below, rest) < least) {
                    least = Math.max(below, rest);
                    at = v;
                }
            }
            return at;
        }

        int feel(int y, int how) {
            if (!in(y, 1, 900) || !in(how, 0, 2)) {
                return OUTSIDE;
            }
            if (felt.size() == 6) {
                return FULL;
            }
            felt.add(new int[] {y, how});
            return felt.size();
        }

        int ends(int what) {
            if (!in(what, 0, 3)) {
                return OUTSIDE;
            }
            List<Integer> fit = new ArrayList<>();
            for (int end = 1; end <= 900; end++) {
                boolean all = true;
                for (int[] f : felt) {
                    all &= f[1] == 1 ? end == f[0] : f[1] == 0 ? end > f[0] : end < f[0];
                }
                if (all) {
                    fit.add(end);
                }
            }
            int n = fit.size();
            return what == 0 ? n : n == 0 ? NONE : fit.get(what == 1 ? 0 : what == 2 ? n - 1 : (n - 1) / 2);
        }

        int write(int g, int years) {
            if (!known(g)) {
                return UNKNOWN;
            }
            if (!in(years, 0, 999999)) {
                return OUTSIDE;
            }
            if (book.size() == 15) {
                return FULL;
            }
            book.add(new int[] {g, years});
            return book.size();
        }

        int tear() {
            int had = seen.size() + felt.size() + book.size();
            seen.clear();
            felt.clear();
            book.clear();
            return had;
        }

        int judge() {
            for (int i = 0; i < book.size(); i++) {
                if (goer(book.get(i)[0], 0) != book.get(i)[1]) {
                    return i;
                }
            }
            return NONE;
        }

        int seed(int v) {
            if (v < 0) {
                return OUTSIDE;
            }
            int was = (int) seed;
            seed = v;
            return was;
        }

        int keep(int i) {
            if (!in(i, 0, 1)) {
                return UNKNOWN;
            }
            images[i] = w.copy();
            imageSeeds[i] = seed;
            undo.clear();
            return 1;
        }

        int goBack(int i) {
            if (!in(i, 0, 1)) {
                return UNKNOWN;
            }
            if (images[i] == null) {
                return NOT;
            }
            w = images[i].copy();
            seed = imageSeeds[i];
            undo.clear();
            return 1;
        }
    }

    static final Random random = new Random(20260818);
    static final List<String> log = new ArrayList<>();
    static int wrong = 0;
    static long calls = 0;

    static void due(String call, int got, int want) {
        calls++;
        log.add(call + " -> " + want);
        if (got != want) {
            wrong++;
            if (wrong <= 5) {
                System.out.println("a run of " + log.size() + " calls: " + log.subList(Math.max(0, log.size() - 30), log.size()) + ": the last answered " + got);
            }
        }
    }

    static int roll(int n) {
        return random.nextInt(n);
    }

    /** A number of lo to hi, often at an edge, now and then out of it or far out. */
    static int near(int lo, int hi) {
        int k = roll(30);
        int[] edges = {lo, hi, lo - 1, hi + 1, Integer.MIN_VALUE, Integer.MAX_VALUE, NONE};
        return k < edges.length && (k < 2 || roll(3) == 0) ? edges[k] : lo + roll(hi - lo + 1);
    }

    static String blanks() {
        return roll(6) == 0 ? " ".repeat(1 + roll(3)) : "";
    }

    static String number(int lo, int hi) {
        int v = roll(40) == 0 ? Math.max(0, near(lo, hi) % 2000) : lo + roll(hi - lo + 1);
        String s = Integer.toString(v);
        return (roll(25) == 0 ? "0" : "") + s;
    }

    static String clause(char word, String... numbers) {
        StringBuilder b = new StringBuilder(blanks()).append(word).append(blanks()).append(numbers[0]);
        if (numbers.length > 1) {
            b.append(" ").append(blanks()).append(numbers[1]);
        }
        return b.append(blanks()).append(";").append(blanks()).toString();
    }

    static String someText() {
        int size = roll(5) == 0 ? 900 : 10 + roll(60);
        StringBuilder b = new StringBuilder(clause('x', number(10, size), number(1, roll(2) == 0 ? 3 : 8)));
        int y = 0;
        int goers = roll(8) == 0 ? roll(10) : 3 + roll(6);
        int layers = roll(8) == 0 ? roll(8) : roll(5);
        for (int i = 0; i < goers + layers; i++) {
            if (roll(goers + layers) < layers) {
                y += roll(20) == 0 ? 0 : 1 + roll(Math.max(1, size / 4));
                b.append(clause('l', Integer.toString(Math.min(999, y)), number(2, roll(3) == 0 ? 60 : 5)));
            } else {
                b.append(clause('g', number(0, roll(2) == 0 ? 9 : 99), number(0, 4)));
            }
            if (roll(20) == 0) {
                b.append(clause('p', number(1, 99)));
            }
        }
        if (roll(5) == 0) {
            b.setCharAt(roll(b.length()), "xlgp; 0123456789aX~"
                .charAt(roll(19)));
        }
        if (roll(12) == 0) {
            b.deleteCharAt(roll(b.length()));
        }
        if (roll(12) == 0) {
            b.setLength(roll(b.length() + 1));
        }
        if (roll(40) == 0) {
            b.insert(roll(b.length() + 1), (char) roll(256));
        }
        return b.toString();
    }

    static void tell(CaptiveCar x, Model m) {
        String text = someText();
        for (int i = 0; i < text.length(); i++) {
            due("feed(" + (int) text.charAt(i) + ")", x.feed(text.charAt(i)), m.feed(text.charAt(i)));
        }
        due("fair()", x.fair(), m.fair());
        due("fault()", x.fault(), m.faultAt);
    }

    static void state(CaptiveCar x, Model m) {
        for (int what = 0; what < 20; what++) {
            due("told(" + what + ")", x.told(what), m.told(what));
        }
        for (int g = 0; g < m.w.people.size(); g++) {
            for (int what = 0; what < 7; what++) {
                due("goer(" + g + ", " + what + ")", x.goer(g, what), m.goer(g, what));
            }
            due("front(" + g + ")", x.front(g), m.front(g));
        }
    }

    static void doSomething(CaptiveCar x, Model m) {
        int g = near(0, Math.max(0, m.w.people.size() - 1));
        int y = roll(3) == 0 ? 0 : near(0, Math.max(1, roll(2) == 0 ? 3 : m.law.e));
        int n = roll(4) == 0 ? near(1, 500) : 1 + roll(30);
        int i = near(0, 1);
        int v = roll(9) == 0 ? near(0, Integer.MAX_VALUE - 1) : roll(Integer.MAX_VALUE);
        switch (roll(26)) {
            case 0: case 1: case 2: case 3: case 4: due("join(" + g + ")", x.join(g), m.join(g)); break;
            case 5: due("leave(" + g + ")", x.leave(g), m.leave(g)); break;
            case 6: case 7: case 8: due("board()", x.board(), m.board()); break;
            case 9: case 10: case 11: case 12: due("car(" + y + ")", x.car(y), m.car(y)); break;
            case 13: due("alight()", x.alight(), m.alight()); break;
            case 14: case 15: due("off(" + g + ")", x.off(g), m.off(g)); break;
            case 16: case 17: case 18: due("fetch(" + g + ")", x.fetch(g), m.fetch(g)); break;
            case 19: case 20: due("hour(" + n + ")", x.hour(n), m.hour(n)); break;
            case 21: int few = near(1, 60); due("drift(" + few + ")", x.drift(few), m.drift(few)); break;
            case 22: case 23: due("undo()", x.undo(), m.undo()); break;
            case 24:
                if (roll(2) == 0) {
                    due("keep(" + i + ")", x.keep(i), m.keep(i));
                } else {
                    due("goBack(" + i + ")", x.goBack(i), m.goBack(i));
                }
                break;
            default: due("seed(" + v + ")", x.seed(v), m.seed(v)); break;
        }
    }

    static void trySomething(CaptiveCar x, Model m) {
        int g = near(0, Math.max(0, m.w.people.size() - 1));
        int h = near(0, Math.max(0, m.w.people.size() - 1));
        int n = near(1, 500);
        int what = near(0, 1);
        int a = roll(2) == 0 && m.known(g) ? m.goer(g, 0) + roll(40) : near(0, 999);
        switch (roll(11)) {
            case 0: due("age(" + g + ", " + n + ")", x.age(g, n), m.age(g, n)); break;
            case 1: due("let(" + g + ", " + n + ", " + a + ", " + what + ")", x.let(g, n, a, what), m.let(g, n, a, what)); break;
            case 2: due("same(" + g + ", " + h + ", " + what + ")", x.same(g, h, what), m.same(g, h, what)); break;
            case 3: due("waits(" + g + ")", x.waits(g), m.waits(g)); break;
            case 4: due("best(" + what + ")", x.best(what), m.best(what)); break;
            case 5:
                int b = near(0, 999);
                int near = Math.max(0, Math.min(999, b - roll(30)));
                int kind = near(0, 2);
                due("was(" + near + ", " + n + ", " + b + ", " + kind + ")", x.was(near, n, b, kind), m.was(near, n, b, kind));
                break;
            case 6:
                int p = near(1, roll(2) == 0 ? 20 : 999);
                int q = near(1, roll(2) == 0 ? 20 : 999);
                int c = near(0, 999);
                int d = near(0, 999);
                due("meet(" + p + ", " + q + ", " + c + ", " + d + ")", x.meet(p, q, c, d), m.meet(p, q, c, d));
                break;
            case 7: int by = near(1, 20); due("bestPrice(" + by + ", " + what + ")", x.bestPrice(by, what), m.bestPrice(by, what)); break;
            case 8:
                int days = near(0, 60);
                int odds = near(0, 100);
                due("wind(" + days + ", " + odds + ")", x.wind(days, odds), m.wind(days, odds));
                break;
            case 9: int y = near(0, 900); due("speed(" + y + ")", x.speed(y), m.speed(y)); break;
            default: int w = near(0, 19); due("told(" + w + ")", x.told(w), m.told(w)); break;
        }
    }

    static void findSomething(CaptiveCar x, Model m) {
        int g = near(0, Math.max(0, m.w.people.size() - 1));
        switch (roll(9)) {
            case 0:
                int y = near(0, roll(2) == 0 ? 60 : 900);
                int s = near(1, roll(2) == 0 ? 3 : 60);
                boolean more = y > 30 ? roll(4) > 0 : roll(4) == 0;
                due("see(" + y + ", " + s + ", " + more + ")", x.see(y, s, more), m.see(y, s, more));
                break;
            case 1: int what = near(0, 2); due("laws(" + what + ")", x.laws(what), m.laws(what)); break;
            case 2: due("yard()", x.yard(), m.yard()); break;
            case 3:
                int f = near(1, 900);
                int how = roll(8) == 0 ? near(0, 2) : f < 450 ? 0 : 2;
                due("feel(" + f + ", " + how + ")", x.feel(f, how), m.feel(f, how));
                break;
            case 4: int of = near(0, 3); due("ends(" + of + ")", x.ends(of), m.ends(of)); break;
            case 5: case 6:
                int years = roll(8) > 0 && m.known(g) ? m.goer(g, 0) : near(0, 999999);
                due("write(" + g + ", " + years + ")", x.write(g, years), m.write(g, years));
                break;
            case 7: due("judge()", x.judge(), m.judge()); break;
            default:
                if (roll(6) == 0) {
                    due("tear()", x.tear(), m.tear());
                }
                break;
        }
    }

    static void oneRun(boolean told) {
        log.clear();
        CaptiveCar x = new CaptiveCar();
        Model m = new Model();
        if (told) {
            tell(x, m);
        }
        int steps = 20 + roll(120);
        // A text and the last look at all of the state stay within the 512 calls.
        for (int i = 0; i < steps && log.size() < 420; i++) {
            int k = roll(log.size() < 200 ? 100 : 99);
            if (k < 62) {
                doSomething(x, m);
            } else if (k < 84) {
                trySomething(x, m);
            } else if (k < 98) {
                findSomething(x, m);
            } else if (k < 99) {
                state(x, m);
            } else {
                tell(x, m);
            }
        }
        state(x, m);
    }

    static void hours(CaptiveCar x, Model m, int n) {
        due("hour(" + n + ")", x.hour(n), m.hour(n));
    }

    static void goUp(CaptiveCar x, Model m) {
        for (int g = 0; g < m.w.people.size(); g++) {
            due("join(" + g + ")", x.join(g), m.join(g));
        }
        due("board()", x.board(), m.board());
        int y = roll(m.law.e + 1);
        due("car(" + y + ")", x.car(y), m.car(y));
    }

    /** Up to the last HOURS, where hour() and drift() are FULL, and on from there; answers whether FULL was met. */
    static boolean lateRun() {
        log.clear();
        CaptiveCar x = new CaptiveCar();
        Model m = new Model();
        tell(x, m);
        // Behind a longer text the 512 calls would not be enough.
        if (!m.law.told || log.size() > 150) {
            return false;
        }
        goUp(x, m);
        while (99999 - m.w.hours > 500) {
            hours(x, m, 500);
        }
        int below = roll(4);
        hours(x, m, Math.max(1, 99999 - m.w.hours - below));
        boolean full = false;
        for (int i = 0; i < 40; i++) {
            int n = 1 + roll(roll(2) == 0 ? 2 : 60);
            switch (roll(5)) {
                case 0: hours(x, m, n); break;
                case 1: due("drift(" + n + ")", x.drift(n), m.drift(n)); break;
                case 2: due("undo()", x.undo(), m.undo()); break;
                case 3: trySomething(x, m); break;
                default: doSomething(x, m); break;
            }
            full |= m.w.hours > 99999;
        }
        hours(x, m, 1);
        due("drift(1)", x.drift(1), m.drift(1));
        state(x, m);
        return full;
    }

    static void lateRuns(int runs) {
        int met = 0;
        for (int i = 0; i < runs; i++) {
            met += lateRun() ? 1 : 0;
        }
        if (met < runs / 3) {
            wrong++;
            System.out.println("only " + met + " of " + runs + " runs went past 99999 HOURS");
        }
    }

    public static void main(String[] args) {
        int runs = args.length > 0 ? Integer.parseInt(args[0]) : 2500;
        if (args.length > 1) {
            random.setSeed(Long.parseLong(args[1]));
        }
        for (int i = 0; i < runs; i++) {
            oneRun(roll(12) > 0);
        }
        for (int i = 0; i < runs * 4; i++) {
            log.clear();
            tell(new CaptiveCar(), new Model());
        }
        lateRuns(Math.max(30, runs / 25));
        System.out.println(calls + " calls, " + wrong + " wrong");
        if (wrong != 0) {
            System.exit(1);
        }
    }
}
