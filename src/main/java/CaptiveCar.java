/** A captive car on its cable over an exhibition: what ../shared/DOC.md promises, numbered there 1 to 38. */
public final class CaptiveCar {
    public static final int NONE = -1, UNKNOWN = -1000000001, OUTSIDE = -1000000002, NOT = -1000000003, FULL = -1000000004;

    private static final int LETTERS_MOST = 240;
    private static final int LAYERS_MOST = 6;
    private static final int GOERS_MOST = 8;
    private static final int SEEN_MOST = 6;
    private static final int FELT_MOST = 6;
    private static final int BOOK_MOST = 15;
    private static final int UNDO_MOST = 16;
    private static final int IMAGES = 2;

    private static final int YARDS_MOST = 900;
    private static final int PACE_MOST = 60;
    private static final int PRICE_MOST = 99;
    private static final int PRICE_UNTOLD = 12;
    private static final int YEAR = 100;
    private static final int AGE_MOST = 99999999;
    private static final int GOT_MOST = 999999;
    private static final int HOURS_MOST = 99999;
    private static final int TRIED_MOST = 500;
    private static final int SAME_MOST = 5000;
    private static final int DRIFT_MOST = 60;
    private static final long BILLION = 1000000000L;

    private static final int ON_GROUND = 0;
    private static final int IN_QUEUE = 1;
    private static final int IN_CAR = 2;
    private static final int SET_DOWN = 3;

    private static final int FAULT_STAND = 1;
    private static final int FAULT_NUMBER = 2;
    private static final int FAULT_AGAIN = 3;
    private static final int FAULT_RISING = 4;

    private final Text text;
    private Plan plan;
    private Plan draft;
    private final Scene now;
    private final Past past;
    private final Scene[] images;
    private final int[] imageSeeds;
    private final boolean[] imageKept;
    private final Findings findings;
    private int drawn;

    public CaptiveCar() {
        text = new Text();
        plan = new Plan();
        draft = new Plan();
        now = new Scene();
        past = new Past();
        images = new Scene[IMAGES];
        for (int i = 0; i < IMAGES; i++) {
            images[i] = new Scene();
        }
        imageSeeds = new int[IMAGES];
        imageKept = new boolean[IMAGES];
        findings = new Findings();
        drawn = 0;
    }

    // ---- the fair

    public int feed(int letter) {
        if (isOutside(letter, 0, 255)) {
            return OUTSIDE;
        }
        if (text.length >= LETTERS_MOST) {
            return FULL;
        }
        return text.append(letter);
    }

    public int fair() {
        int wrong = text.readInto(draft);
        text.length = 0;
        if (wrong != 0) {
            return -10 - wrong;
        }
        Plan old = plan;
        plan = draft;
        draft = old;
        now.begin(plan);
        findings.clear();
        past.count = 0;
        for (int i = 0; i < IMAGES; i++) {
            imageKept[i] = false;
        }
        return plan.goers;
    }

    public int fault() {
        return text.faultAt;
    }

    public int told(int what) {
        switch (what) {
            case 0: return plan.end;
            case 1: return plan.room;
            case 2: return plan.layers;
            case 3: return plan.goers;
            case 4: return text.length;
            case 5: return now.hours;
            case 6: return now.carHeight;
            case 7: return plan.stands && now.carHeight == plan.end ? 1 : 0;
            case 8: return now.setOf(IN_QUEUE);
            case 9: return now.setOf(IN_CAR);
            case 10: return now.setOf(SET_DOWN);
            case 11: return now.got;
            case 12: return bandBehind(0);
            case 13: return youngest();
            case 14: return oldest();
            case 15: return plan.price * now.queued;
            case 16: return findings.seen;
            case 17: return findings.felt;
            case 18: return findings.entries;
            case 19: return past.count;
            default: return OUTSIDE;
        }
    }

    public int speed(int y) {
        if (isOutside(y, 0, YARDS_MOST)) {
            return OUTSIDE;
        }
        return plan.stands ? plan.paceAt(y) : NOT;
    }

    public int goer(int g, int what) {
        if (!plan.hasGoer(g)) {
            return UNKNOWN;
        }
        switch (what) {
            case 0: return now.ages[g] / YEAR;
            case 1: return now.ages[g];
            case 2: return plan.trades[g];
            case 3: return now.works[g];
            case 4: return skill(plan.trades[g], now.works[g], now.ages[g]);
            case 5: return now.places[g];
            case 6: return now.heightOf(g);
            default: return OUTSIDE;
        }
    }

    public int front(int n) {
        return n >= 0 && n < now.queued ? now.queue[n] : NONE;
    }

    // ---- what is done

    public int join(int g) {
        if (!plan.hasGoer(g)) {
            return UNKNOWN;
        }
        if (now.places[g] != ON_GROUND) {
            return NOT;
        }
        past.push(now);
        now.enqueue(g);
        return now.queued;
    }

    public int leave(int g) {
        if (!plan.hasGoer(g)) {
            return UNKNOWN;
        }
        if (now.places[g] != IN_QUEUE) {
            return NOT;
        }
        past.push(now);
        now.dequeue(now.turnOf(g), ON_GROUND);
        return now.queued;
    }

    public int board() {
        if (!plan.stands || now.carHeight != 0) {
            return NOT;
        }
        past.push(now);
        return now.fillCar(plan);
    }

    public int car(int y) {
        if (isOutside(y, 0, plan.end)) {
            return OUTSIDE;
        }
        if (y == now.carHeight) {
            return NOT;
        }
        past.push(now);
        int was = now.carHeight;
        now.carHeight = y;
        return was;
    }

    public int alight() {
        if (!plan.stands || now.carHeight != 0) {
            return NOT;
        }
        past.push(now);
        return now.emptyCar();
    }

    public int off(int g) {
        if (!plan.hasGoer(g)) {
            return UNKNOWN;
        }
        if (now.places[g] != IN_CAR || now.carHeight == 0) {
            return NOT;
        }
        past.push(now);
        now.places[g] = SET_DOWN;
        now.heights[g] = now.carHeight;
        return now.inCar();
    }

    public int fetch(int g) {
        if (!plan.hasGoer(g)) {
            return UNKNOWN;
        }
        if (now.places[g] != SET_DOWN || now.heights[g] != now.carHeight) {
            return NOT;
        }
        if (now.inCar() >= plan.room) {
            return FULL;
        }
        past.push(now);
        now.places[g] = IN_CAR;
        return now.inCar();
    }

    public int hour(int n) {
        int refusal = refusalOfHours(n, TRIED_MOST);
        if (refusal != 0) {
            return refusal;
        }
        past.push(now);
        now.pass(n, plan);
        return now.hours;
    }

    public int drift(int n) {
        int refusal = refusalOfHours(n, DRIFT_MOST);
        if (refusal != 0) {
            return refusal;
        }
        past.push(now);
        for (int i = 0; i < n; i++) {
            doByDraw();
            now.pass(1, plan);
        }
        return now.got;
    }

    public int undo() {
        if (past.count == 0) {
            return NOT;
        }
        past.pop(now);
        return past.count;
    }

    // ---- tried

    public int age(int g, int n) {
        if (!plan.hasGoer(g)) {
            return UNKNOWN;
        }
        if (isOutside(n, 0, TRIED_MOST)) {
            return OUTSIDE;
        }
        return older(now.ages[g], n * paceOf(g)) / YEAR;
    }

    public int let(int g, int n, int a, int what) {
        if (!plan.hasGoer(g)) {
            return UNKNOWN;
        }
        if (isOutside(n, 1, TRIED_MOST) || isOutside(a, 0, 999) || isOutside(what, 0, 1)) {
            return OUTSIDE;
        }
        int found = NONE;
        for (int y = 0; y <= plan.end; y++) {
            if (older(now.ages[g], n * plan.paceAt(y)) / YEAR == a) {
                found = y;
                if (what == 0) {
                    break;
                }
            }
        }
        return found;
    }

    public int same(int g, int h, int what) {
        if (!plan.hasGoer(g) || !plan.hasGoer(h) || g == h) {
            return UNKNOWN;
        }
        if (isOutside(what, 0, 1)) {
            return OUTSIDE;
        }
        int unit = what == 0 ? YEAR : 1;
        int paceG = paceOf(g);
        int paceH = paceOf(h);
        for (int n = 0; n <= SAME_MOST; n++) {
            if (older(now.ages[g], n * paceG) / unit == older(now.ages[h], n * paceH) / unit) {
                return n;
            }
        }
        return NONE;
    }

    public int waits(int g) {
        if (!plan.hasGoer(g)) {
            return UNKNOWN;
        }
        int turn = now.turnOf(g);
        if (turn == NONE || plan.room < 1) {
            return NONE;
        }
        return turn / plan.room + 1;
    }

    public int best(int what) {
        if (isOutside(what, 0, 1)) {
            return OUTSIDE;
        }
        int bestBand = bandBehind(0);
        int bestHour = 0;
        for (int n = 1; n <= TRIED_MOST; n++) {
            int band = bandBehind(n);
            if (band > bestBand) {
                bestBand = band;
                bestHour = n;
            }
        }
        return what == 0 ? bestHour : bestBand;
    }

    public int was(int a, int n, int b, int what) {
        if (isOutside(a, 0, 999) || isOutside(n, 1, TRIED_MOST) || isOutside(b, 0, 999) || isOutside(what, 0, 2)) {
            return OUTSIDE;
        }
        int count = 0;
        int least = NONE;
        int greatest = NONE;
        for (int s = 1; s <= PACE_MOST; s++) {
            if ((a * YEAR + n * s) / YEAR == b) {
                count++;
                greatest = s;
                if (least == NONE) {
                    least = s;
                }
            }
        }
        if (what == 0) {
            return count;
        }
        return what == 1 ? least : greatest;
    }

    public int meet(int a, int b, int c, int d) {
        if (isOutside(a, 1, 999) || isOutside(b, 1, 999) || isOutside(c, 0, 999) || isOutside(d, 0, 999)) {
            return OUTSIDE;
        }
        // 999 strokes of the first reach HOUR d at the latest, and b more see all that it ever leaves over by b.
        int strike = c;
        for (int i = 0; i < 2000; i++) {
            if (strike >= d && (strike - d) % b == 0) {
                return strike;
            }
            strike += a;
        }
        return NONE;
    }

    public int bestPrice(int d, int what) {
        if (isOutside(d, 1, 20) || isOutside(what, 0, 1)) {
            return OUTSIDE;
        }
        int bestAt = 1;
        int bestSum = now.queued;
        for (int price = 2; price <= PRICE_MOST; price++) {
            int gone = Math.max(0, price - PRICE_UNTOLD) / d;
            int sum = price * Math.max(0, now.queued - gone);
            if (sum > bestSum) {
                bestSum = sum;
                bestAt = price;
            }
        }
        return what == 0 ? bestAt : bestSum;
    }

    public int wind(int n, int q) {
        if (isOutside(n, 0, 60) || isOutside(q, 0, 100)) {
            return OUTSIDE;
        }
        long odds = BILLION;
        for (int i = 0; i < n; i++) {
            odds = odds * q / 100;
        }
        return (int) odds;
    }

    // ---- what is seen, felt

    public int see(int y, int s, boolean more) {
        if (isOutside(y, 0, YARDS_MOST) || isOutside(s, 1, PACE_MOST)) {
            return OUTSIDE;
        }
        return findings.seen < SEEN_MOST ? findings.addSeen(y, s, more) : FULL;
    }

    public int laws(int what) {
        if (isOutside(what, 0, 2)) {
            return OUTSIDE;
        }
        if (what == 0) {
            return findings.countLaws();
        }
        int least = findings.leastLayer();
        if (what == 1 || least == NONE) {
            return least;
        }
        return findings.leastPace(least);
    }

    public int yard() {
        return findings.bestYard();
    }

    public int feel(int y, int how) {
        if (isOutside(y, 1, YARDS_MOST) || isOutside(how, 0, 2)) {
            return OUTSIDE;
        }
        return findings.felt < FELT_MOST ? findings.addFelt(y, how) : FULL;
    }

    public int ends(int what) {
        if (isOutside(what, 0, 3)) {
            return OUTSIDE;
        }
        int least = findings.leastEnd();
        int greatest = findings.greatestEnd();
        int count = Math.max(0, greatest - least + 1);
        if (what == 0) {
            return count;
        }
        if (count == 0) {
            return NONE;
        }
        if (what == 1) {
            return least;
        }
        return what == 2 ? greatest : least + (count - 1) / 2;
    }

    public int write(int g, int years) {
        if (!plan.hasGoer(g)) {
            return UNKNOWN;
        }
        if (isOutside(years, 0, 999999)) {
            return OUTSIDE;
        }
        return findings.entries < BOOK_MOST ? findings.addEntry(g, years) : FULL;
    }

    public int tear() {
        int had = findings.seen + findings.felt + findings.entries;
        findings.clear();
        return had;
    }

    public int judge() {
        return findings.firstWrong(now);
    }

    // ---- draws, images

    public int seed(int v) {
        if (v < 0) {
            return OUTSIDE;
        }
        int was = drawn;
        drawn = v;
        return was;
    }

    public int keep(int i) {
        if (isOutside(i, 0, IMAGES - 1)) {
            return UNKNOWN;
        }
        images[i].copyFrom(now);
        imageSeeds[i] = drawn;
        imageKept[i] = true;
        past.count = 0;
        return 1;
    }

    public int goBack(int i) {
        if (isOutside(i, 0, IMAGES - 1)) {
            return UNKNOWN;
        }
        if (!imageKept[i]) {
            return NOT;
        }
        now.copyFrom(images[i]);
        drawn = imageSeeds[i];
        past.count = 0;
        return 1;
    }

    // ---- what several calls need

    private static boolean isOutside(int value, int least, int most) {
        return value < least || value > most;
    }

    /** The age in HOURS of one that was so old, behind so many HOURS of its own. */
    private static int older(int ageInHours, int hours) {
        return Math.min(AGE_MOST, ageInHours + hours);
    }

    private static int skill(int trade, int work, int ageInHours) {
        switch (trade) {
            case 1: return work / 100;
            case 2: return Math.min(40, work / 50);
            case 3: return halvedAbove(30, work / 20);
            case 4: return work / 100 + ageInHours / YEAR / 10;
            default: return 0;
        }
    }

    private static int halvedAbove(int limit, int value) {
        return value > limit ? limit + (value - limit) / 2 : value;
    }

    private int refusalOfHours(int n, int most) {
        if (isOutside(n, 1, most)) {
            return OUTSIDE;
        }
        if (!plan.stands) {
            return NOT;
        }
        return now.hours > HOURS_MOST ? FULL : 0;
    }

    private int paceOf(int g) {
        return plan.paceAt(now.heightOf(g));
    }

    private int bandBehind(int n) {
        int band = 0;
        for (int g = 0; g < plan.goers; g++) {
            if (now.isUp(g)) {
                int hours = n * paceOf(g);
                band += skill(plan.trades[g], now.works[g] + hours, older(now.ages[g], hours));
            }
        }
        return band;
    }

    private int youngest() {
        int found = NONE;
        for (int g = 0; g < plan.goers; g++) {
            if (found == NONE || now.ages[g] < now.ages[found]) {
                found = g;
            }
        }
        return found;
    }

    private int oldest() {
        int found = NONE;
        for (int g = 0; g < plan.goers; g++) {
            if (found == NONE || now.ages[g] > now.ages[found]) {
                found = g;
            }
        }
        return found;
    }

    private int draw(int n) {
        drawn = (drawn * 1103515245 + 12345) & 0x7fffffff;
        return n < 1 ? 0 : drawn / 65536 % n;
    }

    private void doByDraw() {
        switch (draw(5)) {
            case 0:
                joinByDraw();
                break;
            case 1:
                if (now.carHeight == 0) {
                    now.fillCar(plan);
                }
                break;
            case 2:
                now.carHeight = 1 + draw(plan.end);
                break;
            case 3:
                now.carHeight = 0;
                now.emptyCar();
                break;
            default:
                break;
        }
    }

    private void joinByDraw() {
        if (plan.goers == 0) {
            return;
        }
        int g = draw(plan.goers);
        if (now.places[g] == ON_GROUND) {
            now.enqueue(g);
        }
    }

    /** What a text tells of a fair; it does not stand while there is none. */
    private static final class Plan {
        boolean stands;
        boolean priceTold;
        int end;
        int room;
        int price;
        int layers;
        int goers;
        final int[] layerFrom;
        final int[] layerPaces;
        final int[] years;
        final int[] trades;

        Plan() {
            price = PRICE_UNTOLD;
            layerFrom = new int[LAYERS_MOST];
            layerPaces = new int[LAYERS_MOST];
            years = new int[GOERS_MOST];
            trades = new int[GOERS_MOST];
        }

        void clear() {
            stands = false;
            priceTold = false;
            end = 0;
            room = 0;
            price = PRICE_UNTOLD;
            layers = 0;
            goers = 0;
        }

        boolean hasGoer(int g) {
            return g >= 0 && g < goers;
        }

        void setEnd(int yards, int places) {
            stands = true;
            end = yards;
            room = places;
        }

        void setPrice(int shillings) {
            priceTold = true;
            price = shillings;
        }

        void addLayer(int from, int pace) {
            if (layers < LAYERS_MOST) {
                layerFrom[layers] = from;
                layerPaces[layers] = pace;
                layers++;
            }
        }

        void addGoer(int yearsOld, int trade) {
            if (goers < GOERS_MOST) {
                years[goers] = yearsOld;
                trades[goers] = trade;
                goers++;
            }
        }

        boolean isAboveLayers(int from) {
            return layers == 0 || from > layerFrom[layers - 1];
        }

        int paceAt(int height) {
            for (int i = layers - 1; i >= 0; i--) {
                if (layerFrom[i] <= height) {
                    return layerPaces[i];
                }
            }
            return 1;
        }
    }

    /** The letters fed so far, and the reading of them up to the first fault. */
    private static final class Text {
        final int[] letters;
        int length;
        int at;
        int numberAt;
        int fault;
        int faultAt;

        Text() {
            letters = new int[LETTERS_MOST];
            faultAt = NONE;
        }

        int append(int letter) {
            if (length < LETTERS_MOST) {
                letters[length] = letter;
                length++;
            }
            return length;
        }

        /** Answers the number of the fault, 0 if there is none. */
        int readInto(Plan plan) {
            plan.clear();
            at = 0;
            fault = 0;
            faultAt = NONE;
            skipBlanks();
            // Each clause takes a letter at least, so there are no more of them than letters.
            for (int clause = 0; clause < LETTERS_MOST && at < length && fault == 0; clause++) {
                readClause(plan);
                skipBlanks();
            }
            return fault;
        }

        void readClause(Plan plan) {
            int word = letters[at];
            int wrong = faultOfWord(word, plan);
            if (wrong != 0) {
                blame(wrong, at);
                return;
            }
            at++;
            switch (word) {
                case 'x':
                    readEnd(plan);
                    break;
                case 'l':
                    readLayer(plan);
                    break;
                case 'g':
                    readGoer(plan);
                    break;
                default:
                    readPrice(plan);
                    break;
            }
        }

        static int faultOfWord(int word, Plan plan) {
            if (!plan.stands) {
                return word == 'x' ? 0 : FAULT_STAND;
            }
            switch (word) {
                case 'x': return FAULT_AGAIN;
                case 'l': return plan.layers < LAYERS_MOST ? 0 : FAULT_AGAIN;
                case 'g': return plan.goers < GOERS_MOST ? 0 : FAULT_AGAIN;
                case 'p': return plan.priceTold ? FAULT_AGAIN : 0;
                default: return FAULT_STAND;
            }
        }

        void readEnd(Plan plan) {
            int yards = readNumber(10, YARDS_MOST);
            int places = readNumber(1, 8);
            readClose();
            if (fault == 0) {
                plan.setEnd(yards, places);
            }
        }

        void readLayer(Plan plan) {
            int from = readNumber(1, YARDS_MOST);
            if (!plan.isAboveLayers(from)) {
                blame(FAULT_RISING, numberAt);
            }
            int pace = readNumber(2, PACE_MOST);
            readClose();
            if (fault == 0) {
                plan.addLayer(from, pace);
            }
        }

        void readGoer(Plan plan) {
            int yearsOld = readNumber(0, 99);
            int trade = readNumber(0, 4);
            readClose();
            if (fault == 0) {
                plan.addGoer(yearsOld, trade);
            }
        }

        void readPrice(Plan plan) {
            int shillings = readNumber(1, PRICE_MOST);
            readClose();
            if (fault == 0) {
                plan.setPrice(shillings);
            }
        }

        int readNumber(int least, int most) {
            if (fault != 0) {
                return 0;
            }
            skipBlanks();
            numberAt = at;
            int figures = 0;
            int value = 0;
            while (at < length && isFigure(letters[at])) {
                // A fourth figure is a fault whatever the value, so none may make it overflow.
                if (figures < 3) {
                    value = value * 10 + letters[at] - '0';
                }
                figures++;
                at++;
            }
            if (figures == 0) {
                blame(FAULT_STAND, at);
            } else if (figures > 3 || isOutside(value, least, most)) {
                blame(FAULT_NUMBER, numberAt);
            }
            return value;
        }

        void readClose() {
            if (fault != 0) {
                return;
            }
            skipBlanks();
            if (at < length && letters[at] == ';') {
                at++;
            } else {
                blame(FAULT_STAND, at);
            }
        }

        void skipBlanks() {
            while (at < length && letters[at] == ' ') {
                at++;
            }
        }

        static boolean isFigure(int letter) {
            return letter >= '0' && letter <= '9';
        }

        /** The first fault stays: what comes behind it is at a later letter, or greater at the same. */
        void blame(int number, int letter) {
            if (fault == 0) {
                fault = number;
                faultAt = letter;
            }
        }
    }

    /** All that an image keeps but the seed: the car, the queue, where each goer is, how old, with what work. */
    private static final class Scene {
        int carHeight;
        int hours;
        int got;
        int queued;
        final int[] queue;
        final int[] ages;
        final int[] works;
        final int[] places;
        final int[] heights;

        Scene() {
            queue = new int[GOERS_MOST];
            ages = new int[GOERS_MOST];
            works = new int[GOERS_MOST];
            places = new int[GOERS_MOST];
            heights = new int[GOERS_MOST];
        }

        void begin(Plan plan) {
            carHeight = 0;
            hours = 0;
            got = 0;
            queued = 0;
            for (int g = 0; g < GOERS_MOST; g++) {
                ages[g] = plan.years[g] * YEAR;
                works[g] = 0;
                places[g] = ON_GROUND;
                heights[g] = 0;
            }
        }

        void copyFrom(Scene other) {
            carHeight = other.carHeight;
            hours = other.hours;
            got = other.got;
            queued = other.queued;
            for (int g = 0; g < GOERS_MOST; g++) {
                queue[g] = other.queue[g];
                ages[g] = other.ages[g];
                works[g] = other.works[g];
                places[g] = other.places[g];
                heights[g] = other.heights[g];
            }
        }

        int setOf(int place) {
            int set = 0;
            for (int g = 0; g < GOERS_MOST; g++) {
                if (places[g] == place) {
                    set |= 1 << g;
                }
            }
            return set;
        }

        int inCar() {
            return Integer.bitCount(setOf(IN_CAR));
        }

        boolean isUp(int g) {
            return places[g] == IN_CAR || places[g] == SET_DOWN;
        }

        int heightOf(int g) {
            if (places[g] == IN_CAR) {
                return carHeight;
            }
            return places[g] == SET_DOWN ? heights[g] : 0;
        }

        int turnOf(int g) {
            for (int i = 0; i < queued; i++) {
                if (queue[i] == g) {
                    return i;
                }
            }
            return NONE;
        }

        void enqueue(int g) {
            if (queued < GOERS_MOST) {
                queue[queued] = g;
                queued++;
                places[g] = IN_QUEUE;
            }
        }

        void dequeue(int turn, int place) {
            if (turn < 0 || turn >= queued) {
                return;
            }
            places[queue[turn]] = place;
            queued--;
            for (int i = turn; i < queued; i++) {
                queue[i] = queue[i + 1];
            }
        }

        int fillCar(Plan plan) {
            int coming = Math.min(queued, Math.max(0, plan.room - inCar()));
            for (int i = 0; i < coming; i++) {
                dequeue(0, IN_CAR);
            }
            got = Math.min(GOT_MOST, got + coming * plan.price);
            return coming;
        }

        int emptyCar() {
            int count = 0;
            for (int g = 0; g < GOERS_MOST; g++) {
                if (places[g] == IN_CAR) {
                    places[g] = ON_GROUND;
                    count++;
                }
            }
            return count;
        }

        void pass(int n, Plan plan) {
            for (int g = 0; g < plan.goers; g++) {
                int own = n * plan.paceAt(heightOf(g));
                ages[g] = older(ages[g], own);
                if (isUp(g)) {
                    works[g] += own;
                }
            }
            hours += n;
        }
    }

    /** The scenes ahead of what was done last, in a ring that loses the oldest. */
    private static final class Past {
        final Scene[] scenes;
        int count;
        int next;

        Past() {
            scenes = new Scene[UNDO_MOST];
            for (int i = 0; i < UNDO_MOST; i++) {
                scenes[i] = new Scene();
            }
        }

        void push(Scene scene) {
            scenes[next].copyFrom(scene);
            next = (next + 1) % UNDO_MOST;
            count = Math.min(UNDO_MOST, count + 1);
        }

        void pop(Scene into) {
            if (count > 0) {
                next = (next + UNDO_MOST - 1) % UNDO_MOST;
                count--;
                into.copyFrom(scenes[next]);
            }
        }
    }

    /** What is seen and felt over an unknown fair, and the book of ages. */
    private static final class Findings {
        int seen;
        int felt;
        int entries;
        final int[] seenYards;
        final int[] seenPaces;
        final boolean[] seenMore;
        final int[] feltYards;
        final int[] feltHow;
        final int[] entryGoers;
        final int[] entryYears;

        Findings() {
            seenYards = new int[SEEN_MOST];
            seenPaces = new int[SEEN_MOST];
            seenMore = new boolean[SEEN_MOST];
            feltYards = new int[FELT_MOST];
            feltHow = new int[FELT_MOST];
            entryGoers = new int[BOOK_MOST];
            entryYears = new int[BOOK_MOST];
        }

        void clear() {
            seen = 0;
            felt = 0;
            entries = 0;
        }

        int addSeen(int y, int s, boolean more) {
            if (seen < SEEN_MOST) {
                seenYards[seen] = y;
                seenPaces[seen] = s;
                seenMore[seen] = more;
                seen++;
            }
            return seen;
        }

        int addFelt(int y, int how) {
            if (felt < FELT_MOST) {
                feltYards[felt] = y;
                feltHow[felt] = how;
                felt++;
            }
            return felt;
        }

        int addEntry(int g, int years) {
            if (entries < BOOK_MOST) {
                entryGoers[entries] = g;
                entryYears[entries] = years;
                entries++;
            }
            return entries;
        }

        int firstWrong(Scene scene) {
            for (int i = 0; i < entries; i++) {
                if (scene.ages[entryGoers[i]] / YEAR != entryYears[i]) {
                    return i;
                }
            }
            return NONE;
        }

        /** The least G that fits what is seen at or above a layer from that yard on. */
        int leastPace(int from) {
            int least = 2;
            for (int i = 0; i < seen; i++) {
                if (seenYards[i] >= from && seenMore[i]) {
                    least = Math.max(least, seenPaces[i]);
                }
            }
            return least;
        }

        int greatestPace(int from) {
            int greatest = PACE_MOST;
            for (int i = 0; i < seen; i++) {
                if (seenYards[i] >= from && !seenMore[i]) {
                    greatest = Math.min(greatest, seenPaces[i] - 1);
                }
            }
            return greatest;
        }

        /** Whether all that is seen below a layer from that yard on is so, where time goes once. */
        boolean fitsBelow(int from) {
            for (int i = 0; i < seen; i++) {
                if (seenYards[i] < from && seenMore[i] != (seenPaces[i] <= 1)) {
                    return false;
                }
            }
            return true;
        }

        /** How many G fit with that Y. */
        int lawsFrom(int from) {
            return fitsBelow(from) ? Math.max(0, greatestPace(from) - leastPace(from) + 1) : 0;
        }

        int countLaws() {
            int count = 0;
            for (int from = 1; from <= YARDS_MOST; from++) {
                count += lawsFrom(from);
            }
            return count;
        }

        int leastLayer() {
            for (int from = 1; from <= YARDS_MOST; from++) {
                if (lawsFrom(from) > 0) {
                    return from;
                }
            }
            return NONE;
        }

        int bestYard() {
            int all = countLaws();
            int best = NONE;
            int bestPart = all;
            int notBelow = 0;
            for (int yards = 1; yards <= YARDS_MOST; yards++) {
                notBelow += lawsFrom(yards);
                int part = Math.max(notBelow, all - notBelow);
                // A part as great as all is no parting, so the best starts there.
                if (yards % 10 == 0 && part < bestPart) {
                    bestPart = part;
                    best = yards;
                }
            }
            return best;
        }

        int leastEnd() {
            int least = 1;
            for (int i = 0; i < felt; i++) {
                if (feltHow[i] == 0) {
                    least = Math.max(least, feltYards[i] + 1);
                } else if (feltHow[i] == 1) {
                    least = Math.max(least, feltYards[i]);
                }
            }
            return least;
        }

        int greatestEnd() {
            int greatest = YARDS_MOST;
            for (int i = 0; i < felt; i++) {
                if (feltHow[i] == 2) {
                    greatest = Math.min(greatest, feltYards[i] - 1);
                } else if (feltHow[i] == 1) {
                    greatest = Math.min(greatest, feltYards[i]);
                }
            }
            return greatest;
        }
    }
}
