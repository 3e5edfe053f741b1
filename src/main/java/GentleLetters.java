import java.util.Arrays;

/** Bad news by letters: see README.md for the use and ../shared/DOC.md for what each call promises. */
public final class GentleLetters {
    public static final int NONE = -1;

    private static final int NO_SUCH = -2;
    private static final int BELOW_ZERO = -3;
    private static final int FAULTY = -4;
    private static final int NO_CHANGE = -5;
    private static final int NOTHING = -6;
    private static final int BEYOND = -7;
    private static final int OTHER_WIDTH = -8;
    private static final int NO_NEWS = -1000;

    private static final int SILENCE = 8;
    private static final int MOST_STATES = 8;
    private static final int MOST_DAYS = 10;
    private static final int MOST_HEARERS = 4;
    private static final int MOST_WORDS = 8;
    private static final int MOST_PLANS = 4;
    private static final int MOST_PLAN_WORDS = 5;
    private static final int MOST_NEWS = 6;
    private static final int MOST_LETTERS = 4;
    private static final int MOST_CHANGES = 60;
    private static final int MOST_NUMBERS = 60;
    private static final int MOST_ORDERED = 6;
    private static final int BELIEFS = 256;
    private static final int IMAGES = 3;
    private static final int SLOTS = 4;
    private static final int WIDTHS = 4;
    private static final int TAPE_BYTES = 900;
    private static final int FEED_BYTES = 20;
    private static final int MOST_GRADE = 99;
    private static final int MOST_THOUGHT = 20;
    private static final int MOST_SEED = 2_000_000_000;
    private static final int MOST_DRAWN = 20;
    private static final int MOST_AMOUNT = 10_000;
    private static final int MOST_PRICE = 100_000;
    private static final int MOST_STEPS = 100;
    private static final int UNKNOWN_PRICE = 100_000;
    /** Above every cost of a week, and far enough below the greatest int to be added to. */
    private static final int NEVER = 1_000_000_000;

    private final DeskReader reader = new DeskReader();
    private final Desk desk = new Desk();
    private final Desk[] images = new Desk[IMAGES];
    private final boolean[] imaged = new boolean[IMAGES];
    private final Row[] rows = new Row[SLOTS];
    private final Week week = new Week();
    private final Mind mind = new Mind();
    private final Reach reach = new Reach();
    private final Planner planner = new Planner();
    private final Risks risks = new Risks();
    private final Letters letters = new Letters();

    public GentleLetters() {
        for (int k = 0; k < IMAGES; k++) {
            images[k] = new Desk();
        }
        for (int slot = 0; slot < SLOTS; slot++) {
            rows[slot] = new Row();
        }
    }

    // ---- the tape and the desk told by it ----

    public int feed(int a, int b, int c, int d, int e) {
        Tape tape = reader.tape;
        if (tape.size > TAPE_BYTES - FEED_BYTES) {
            return NONE;
        }
        tape.put(a);
        tape.put(b);
        tape.put(c);
        tape.put(d);
        tape.put(e);
        return tape.size;
    }

    public int end(int n) {
        if (n < 0 || n > reader.tape.size) {
            return NONE;
        }
        reader.tape.size = n;
        return n;
    }

    public int desk() {
        if (!reader.readDesk()) {
            return FAULTY;
        }
        desk.copyFrom(reader.draft);
        reader.tape.size = 0;
        return desk.lines;
    }

    public int fault(int what) {
        if (what == 0) {
            return reader.fault;
        }
        return what == 1 ? reader.place : NONE;
    }

    public int grade(int state) {
        return desk.hasState(state) ? desk.grades[state] : NO_SUCH;
    }

    public int thinks(int hearer, int state) {
        if (!desk.hasHearer(hearer)) {
            return NO_SUCH;
        }
        if (state == NONE) {
            return desk.reckonings[hearer];
        }
        return desk.hasState(state) ? desk.thoughtOf(hearer, state) : NO_SUCH;
    }

    public int word(int word, int what) {
        if (!desk.hasWord(word)) {
            return NO_SUCH;
        }
        switch (what) {
            case 0:
                return desk.shames[word];
            case 1:
                return desk.meanings[word];
            case 2:
                return desk.isTrue(word) ? 1 : 0;
            default:
                return NO_SUCH;
        }
    }

    public int plan(int plan, int i) {
        if (!desk.hasPlan(plan)) {
            return NO_SUCH;
        }
        return desk.planWord(plan, i);
    }

    public int news(int news) {
        return desk.hasNews(news) ? desk.tidings[news] : NO_NEWS;
    }

    public int tells(int hearer) {
        return desk.hasHearer(hearer) ? desk.told[hearer] : NO_SUCH;
    }

    // ---- beliefs and single steps ----

    public int mean(int hearer, int belief) {
        if (!desk.hasHearer(hearer) || !desk.hasBelief(belief)) {
            return NO_SUCH;
        }
        return desk.meanOf(hearer, belief);
    }

    public int chance(int hearer, int belief, int state, int what) {
        if (!desk.hasHearer(hearer) || !desk.hasBelief(belief)) {
            return NO_SUCH;
        }
        if (!desk.hasState(state) || what < 0 || what > 1) {
            return NO_SUCH;
        }
        return desk.likelihood(hearer, belief, state, what);
    }

    public int behind(int belief, int word) {
        if (!desk.hasBelief(belief) || !desk.canTell(word)) {
            return NO_SUCH;
        }
        return desk.nextBelief(belief, word);
    }

    public int hurt(int hearer, int belief, int word) {
        if (!desk.hasHearer(hearer) || !desk.hasBelief(belief) || !desk.canTell(word)) {
            return NO_SUCH;
        }
        return desk.hurtBetween(hearer, belief, desk.nextBelief(belief, word));
    }

    public int softest(int hearer, int belief) {
        if (!desk.hasHearer(hearer) || !desk.hasBelief(belief)) {
            return NO_SUCH;
        }
        int found = NONE;
        int least = NEVER;
        for (int word = 0; word < desk.words; word++) {
            int hurt = desk.hurtBetween(hearer, belief, desk.nextBelief(belief, word));
            if (hurt < least) {
                least = hurt;
                found = word;
            }
        }
        return found;
    }

    // ---- a slot's row as a week ----

    public int believes(int slot) {
        int code = takeWeek(slot);
        return code < 0 ? code : week.lastBelief(desk);
    }

    public int hurts(int slot, int hearer) {
        int code = feelWeek(slot, hearer);
        return code < 0 ? code : week.sumOfHurts();
    }

    public int worst(int slot, int hearer) {
        int code = feelWeek(slot, hearer);
        return code < 0 ? code : week.greatestHurt();
    }

    public int left(int slot, int hearer) {
        int code = feelWeek(slot, hearer);
        return code < 0 ? code : week.sumLeft(desk);
    }

    public int lies(int slot) {
        int code = takeWeek(slot);
        return code < 0 ? code : week.firstLie(desk);
    }

    public int shames(int slot) {
        int code = takeWeek(slot);
        return code < 0 ? code : week.sumOfShame(desk);
    }

    public int known(int slot) {
        int code = takeWeek(slot);
        return code < 0 ? code : week.knownFrom(desk.truth());
    }

    public int softer(int slot, int hearer) {
        int code = orderWeek(slot, hearer);
        return code < 0 ? code : week.leastOrdered;
    }

    public int ordered(int slot, int hearer, int i) {
        int code = orderWeek(slot, hearer);
        if (code < 0) {
            return code;
        }
        return i >= 0 && i < week.size ? week.bestOrder[i] : NONE;
    }

    // ---- the weeks that hurt least ----

    public int rest(int hearer) {
        if (!desk.hasHearer(hearer)) {
            return NO_SUCH;
        }
        if (leastCost(hearer, false, false) == NONE) {
            return NONE;
        }
        int longest = 0;
        int run = 0;
        for (int day = 0; day < desk.days; day++) {
            run = planner.firstRow[day] == SILENCE ? run + 1 : 0;
            longest = Math.max(longest, run);
        }
        return longest;
    }

    public int least(int hearer) {
        return desk.hasHearer(hearer) ? leastCost(hearer, false, false) : NO_SUCH;
    }

    public int step(int hearer, int day) {
        return wordOfBest(hearer, day, false, false);
    }

    public int truly(int hearer) {
        return desk.hasHearer(hearer) ? leastCost(hearer, false, true) : NO_SUCH;
    }

    public int honest(int hearer, int day) {
        return wordOfBest(hearer, day, false, true);
    }

    public int gentlest(int hearer) {
        return desk.hasHearer(hearer) ? leastCost(hearer, true, false) : NO_SUCH;
    }

    public int gently(int hearer, int day) {
        return wordOfBest(hearer, day, true, false);
    }

    public int tender(int hearer) {
        return desk.hasHearer(hearer) ? leastCost(hearer, true, true) : NO_SUCH;
    }

    public int tenderly(int hearer, int day) {
        return wordOfBest(hearer, day, true, true);
    }

    public int hope(int slot, int hearer, int state, int what) {
        if (!desk.hasHearer(hearer) || !desk.hasState(state) || what < 0 || what > 1) {
            return NO_SUCH;
        }
        int code = takeWeek(slot);
        return code < 0 ? code : desk.likelihood(hearer, week.lastBelief(desk), state, what);
    }

    public int fewest() {
        if (!desk.stands()) {
            return NO_SUCH;
        }
        reach.grow(desk, desk.everything());
        int words = reach.distances[desk.truth()];
        return words <= desk.days ? words : NONE;
    }

    // ---- all at once, and single states ----

    public int once(int hearer) {
        return desk.hasHearer(hearer) ? desk.hurtAtOnce(hearer) : NO_SUCH;
    }

    public int late(int hearer, int n) {
        if (!desk.hasHearer(hearer) || n < 0) {
            return NO_SUCH;
        }
        int hurt = desk.hurtAtOnce(hearer);
        for (int day = desk.days - 1; day >= 0; day--) {
            if (desk.leftOf(hurt, desk.days - 1 - day) <= n) {
                return day;
            }
        }
        return NONE;
    }

    public int calm(int hearer, int belief) {
        if (!desk.hasHearer(hearer) || !desk.hasBelief(belief)) {
            return NO_SUCH;
        }
        int set = 0;
        for (int state = 0; state < desk.states; state++) {
            if (desk.hurtBetween(hearer, belief, 1 << state) == 0) {
                set |= 1 << state;
            }
        }
        return set;
    }

    public int shock(int hearer) {
        if (!desk.hasHearer(hearer)) {
            return NO_SUCH;
        }
        int found = 0;
        int most = 0;
        for (int state = 0; state < desk.states; state++) {
            int hurt = desk.hurtBetween(hearer, desk.everything(), 1 << state);
            if (hurt > most) {
                most = hurt;
                found = state;
            }
        }
        return found;
    }

    public int unsaid() {
        if (!desk.stands()) {
            return NO_SUCH;
        }
        int set = 0;
        for (int state = 0; state < desk.states; state++) {
            if (desk.sharpest(state) != 1 << state) {
                set |= 1 << state;
            }
        }
        return set;
    }

    public int idle() {
        if (!desk.stands()) {
            return NO_SUCH;
        }
        int used = 0;
        for (int hearer = 0; hearer < desk.hearers; hearer++) {
            if (leastCost(hearer, false, false) != NONE) {
                used |= planner.wordsUsed(desk.days);
            }
        }
        return ((1 << desk.words) - 1) & ~used;
    }

    public int enough(int hearer) {
        if (!desk.hasHearer(hearer)) {
            return NO_SUCH;
        }
        int cost = leastCost(hearer, false, false);
        if (cost == NONE) {
            return NONE;
        }
        for (int days = 1; days < desk.days; days++) {
            if (planner.costWithDays(days, desk.everything()) == cost) {
                return days;
            }
        }
        return desk.days;
    }

    public int even(int amount, int n) {
        if (amount < 0 || amount > MOST_AMOUNT || n < 1 || n > MOST_STEPS) {
            return NO_SUCH;
        }
        return evenSquares(amount, n);
    }

    public int steps(int amount, int price) {
        if (amount < 0 || amount > MOST_AMOUNT || price < 0 || price > MOST_PRICE) {
            return NO_SUCH;
        }
        int found = 1;
        int least = NEVER;
        for (int n = 1; n <= MOST_STEPS; n++) {
            int cost = evenSquares(amount, n) + price * n;
            if (cost < least) {
                least = cost;
                found = n;
            }
        }
        return found;
    }

    // ---- leaks ahead ----

    public int risk(int hearer) {
        if (!desk.hasHearer(hearer)) {
            return NO_SUCH;
        }
        weighRisks(hearer, 0, desk.everything());
        return risks.cost;
    }

    public int now(int hearer, int day, int belief) {
        if (!desk.hasHearer(hearer) || !desk.hasDay(day) || !desk.hasBelief(belief)) {
            return NO_SUCH;
        }
        weighRisks(hearer, day, belief);
        return risks.word;
    }

    public int soon(int hearer, int what) {
        if (!desk.hasHearer(hearer) || what < 0 || what > 1) {
            return NO_SUCH;
        }
        int found = 0;
        int least = NEVER;
        int hurt = desk.hurtAtOnce(hearer);
        for (int day = 0; day < desk.days; day++) {
            int cost = desk.costOfWaiting(hurt, day);
            if (cost < least) {
                least = cost;
                found = day;
            }
        }
        return what == 0 ? found : least;
    }

    // ---- hearers who reckon ----

    public int suspects(int slot) {
        int code = takeWeek(slot);
        if (code < 0) {
            return code;
        }
        week.reckon(desk, 0);
        return week.fitting;
    }

    public int knew(int slot, int hearer) {
        int code = reckonWeek(slot, hearer);
        return code < 0 ? code : week.knowingDay;
    }

    public int reckoned(int slot, int hearer) {
        int code = reckonWeek(slot, hearer);
        if (code < 0) {
            return code;
        }
        if (week.knowingDay != NONE) {
            week.overrule(week.knowingDay, desk.beliefBehindPlan(week.knowingPlan));
        }
        week.feel(desk, hearer);
        return week.sumOfHurts();
    }

    public int ends(int plan) {
        return desk.hasPlan(plan) ? desk.beliefBehindPlan(plan) : NO_SUCH;
    }

    // ---- news joined in letters ----

    public int joined(int n) {
        if (!desk.stands() || n < 1 || n > MOST_LETTERS) {
            return NO_SUCH;
        }
        letters.share(desk, n);
        return letters.least;
    }

    public int letter(int n, int news) {
        if (!desk.hasNews(news) || n < 1 || n > MOST_LETTERS) {
            return NO_SUCH;
        }
        letters.share(desk, n);
        return letters.bestDays[news];
    }

    public int all() {
        if (!desk.stands()) {
            return NO_SUCH;
        }
        letters.share(desk, 1);
        return letters.least;
    }

    // ---- whom to tell ----

    public int heard(int set, int day) {
        if (!desk.stands() || set < 0 || set > desk.everybody() || day < 0) {
            return NO_SUCH;
        }
        return desk.knowingAfter(set, day);
    }

    public int whom() {
        return desk.stands() ? Integer.bitCount(desk.fewestToTell()) : NO_SUCH;
    }

    public int first() {
        return desk.stands() ? desk.fewestToTell() : NO_SUCH;
    }

    // ---- letters read back ----

    public int read(int slot) {
        int code = takeWeek(slot);
        return code < 0 ? code : week.statesMeant(desk);
    }

    public int guess(int slot, int hearer) {
        if (!desk.hasHearer(hearer)) {
            return NO_SUCH;
        }
        int code = takeWeek(slot);
        if (code < 0) {
            return code;
        }
        int set = week.statesMeant(desk);
        return set == 0 ? NONE : desk.meanOf(hearer, set);
    }

    // ---- changes, and taking them back ----

    public int worsen(int state, int n) {
        if (!desk.hasState(state) || n < 0 || n > MOST_GRADE) {
            return NO_SUCH;
        }
        return changeDesk(Log.GRADE, state, n);
    }

    public int really(int state) {
        if (!desk.hasState(state)) {
            return NO_SUCH;
        }
        return changeDesk(Log.REALLY, 0, state);
    }

    public int doubt(int hearer, int state, int n) {
        if (!desk.hasHearer(hearer) || !desk.hasState(state) || n < 0 || n > MOST_THOUGHT) {
            return NO_SUCH;
        }
        return changeDesk(Log.THOUGHT, hearer * MOST_STATES + state, n);
    }

    public int undo() {
        if (!desk.stands()) {
            return NO_SUCH;
        }
        if (desk.log.size < 1) {
            return NO_CHANGE;
        }
        desk.log.size--;
        int last = desk.log.size;
        desk.put(desk.log.kinds[last], desk.log.places[last], desk.log.olds[last]);
        return desk.log.size;
    }

    // ---- weeks drawn ----

    public int drawn(int seed, int slot, int hearer, int what) {
        if (!isSeed(seed) || !desk.hasHearer(hearer) || what < 0 || what > 1) {
            return NO_SUCH;
        }
        int code = takeWeek(slot);
        if (code < 0) {
            return code;
        }
        int leakDay = desk.drawLeak(seed);
        if (what == 0) {
            return leakDay;
        }
        week.fillDays(desk);
        if (leakDay != NONE) {
            week.overrule(leakDay, desk.truth());
        }
        week.feel(desk, hearer);
        return week.sumOfHurts();
    }

    public int leaks(int seed, int n) {
        if (!desk.stands() || !isSeed(seed) || n < 1 || n > MOST_DRAWN) {
            return NO_SUCH;
        }
        int weeks = 0;
        for (int i = 0; i < n; i++) {
            if (desk.drawLeak(seed + i) != NONE) {
                weeks++;
            }
        }
        return weeks;
    }

    public int count(int what) {
        switch (what) {
            case 0:
                return desk.states;
            case 1:
                return desk.really;
            case 2:
                return desk.days;
            case 3:
                return desk.heal;
            case 4:
                return desk.leak;
            case 5:
                return desk.hearers;
            case 6:
                return desk.words;
            case 7:
                return desk.plans;
            case 8:
                return desk.news;
            case 9:
                return desk.lines;
            case 10:
                return reader.tape.size;
            case 11:
                return desk.log.size;
            case 12:
                return countRows();
            default:
                return NONE;
        }
    }

    // ---- images ----

    public int image(int k) {
        if (k < 0 || k >= IMAGES) {
            return NO_SUCH;
        }
        Desk kept = images[k];
        if (kept == null) {
            return NO_SUCH;
        }
        kept.copyFrom(desk);
        imaged[k] = true;
        return 0;
    }

    public int back(int k) {
        if (k < 0 || k >= IMAGES) {
            return NO_SUCH;
        }
        Desk kept = images[k];
        if (kept == null || !imaged[k]) {
            return NOTHING;
        }
        desk.copyFrom(kept);
        return 0;
    }

    // ---- slots ----

    public int row(int slot, int width, int n) {
        if (!isSlot(slot) || width < 0 || width >= WIDTHS || n > MOST_NUMBERS) {
            return NO_SUCH;
        }
        if (n < 0) {
            return BELOW_ZERO;
        }
        Row target = rows[slot];
        if (target == null) {
            return NO_SUCH;
        }
        target.begin(width, n);
        return 0;
    }

    public int write(int slot, int i, long v) {
        if (!isSlot(slot)) {
            return NO_SUCH;
        }
        Row target = rowOf(slot);
        if (target == null) {
            return NOTHING;
        }
        if (i < 0 || i >= target.size) {
            return BEYOND;
        }
        target.numbers[i] = target.cut(v);
        return 0;
    }

    public int paste(int slot, int i, int to, int k, int n) {
        if (!isSlot(slot) || !isSlot(to)) {
            return NO_SUCH;
        }
        Row source = rowOf(slot);
        Row target = rowOf(to);
        if (source == null || target == null) {
            return NOTHING;
        }
        if (source.width != target.width) {
            return OTHER_WIDTH;
        }
        if (!source.holds(i, n) || !target.holds(k, n)) {
            return BEYOND;
        }
        System.arraycopy(source.numbers, i, target.numbers, k, n);
        return 0;
    }

    // ---- what several calls share ----

    private static boolean isSlot(int slot) {
        return slot >= 0 && slot < SLOTS;
    }

    /** The row of a slot; null for one that has nothing. */
    private Row rowOf(int slot) {
        Row found = isSlot(slot) ? rows[slot] : null;
        return found != null && found.there ? found : null;
    }

    private static boolean isSeed(int seed) {
        return seed >= 0 && seed <= MOST_SEED;
    }

    /** Takes a slot's row as the week in hand: 0, or the code by which the call is refused. */
    private int takeWeek(int slot) {
        if (!isSlot(slot) || !desk.stands()) {
            return NO_SUCH;
        }
        Row told = rowOf(slot);
        if (told == null) {
            return NOTHING;
        }
        if (!week.take(told, desk)) {
            return NO_SUCH;
        }
        week.believe(desk);
        return 0;
    }

    private int feelWeek(int slot, int hearer) {
        if (!desk.hasHearer(hearer)) {
            return NO_SUCH;
        }
        int code = takeWeek(slot);
        if (code == 0) {
            week.feel(desk, hearer);
        }
        return code;
    }

    private int orderWeek(int slot, int hearer) {
        if (!desk.hasHearer(hearer)) {
            return NO_SUCH;
        }
        int code = takeWeek(slot);
        if (code < 0) {
            return code;
        }
        if (week.size > MOST_ORDERED) {
            return NO_SUCH;
        }
        mind.study(desk, hearer);
        week.orderSoftly(desk, mind);
        return 0;
    }

    private int reckonWeek(int slot, int hearer) {
        if (!desk.hasHearer(hearer)) {
            return NO_SUCH;
        }
        int code = takeWeek(slot);
        if (code == 0) {
            week.reckon(desk, desk.reckonings[hearer]);
        }
        return code;
    }

    private int leastCost(int hearer, boolean gentle, boolean honest) {
        mind.study(desk, hearer);
        reach.grow(desk, desk.everything());
        planner.solve(desk, mind, reach, gentle, honest);
        return planner.cost;
    }

    private int wordOfBest(int hearer, int day, boolean gentle, boolean honest) {
        if (!desk.hasHearer(hearer) || !desk.hasDay(day)) {
            return NO_SUCH;
        }
        if (leastCost(hearer, gentle, honest) == NONE) {
            return NONE;
        }
        return planner.firstRow[day];
    }

    private void weighRisks(int hearer, int day, int belief) {
        mind.study(desk, hearer);
        reach.grow(desk, belief);
        risks.weigh(desk, mind, reach, day, belief);
    }

    private int changeDesk(int kind, int place, int value) {
        if (desk.log.size >= MOST_CHANGES) {
            return NO_CHANGE;
        }
        int old = desk.valueAt(kind, place);
        desk.log.note(kind, place, old);
        desk.put(kind, place, value);
        return old;
    }

    private int countRows() {
        int there = 0;
        for (int slot = 0; slot < SLOTS; slot++) {
            if (rowOf(slot) != null) {
                there++;
            }
        }
        return there;
    }

    private static int evenSquares(int amount, int n) {
        if (n < 1) {
            return 0;
        }
        int low = amount / n;
        int higher = amount % n;
        return higher * (low + 1) * (low + 1) + (n - higher) * low * low;
    }

    /** The bytes fed, and the token on which a reader of them stands. */
    private static final class Tape {
        private static final int AT_END = 0;
        private static final int A_WORD = 1;
        private static final int A_NUMBER = 2;
        private static final int A_SEMICOLON = 3;
        private static final int NO_TOKEN = 4;
        private static final int A_BLANK = 5;
        /** Above every bound of the text, and small enough for one more digit. */
        private static final int HUGE = 1_000_000;

        private final byte[] bytes = new byte[TAPE_BYTES];
        private int size;
        private int kind;
        private int start;
        private int stop;
        private int number;

        private void put(int four) {
            for (int shift = 24; shift >= 0 && size < TAPE_BYTES; shift -= 8) {
                bytes[size] = (byte) (four >> shift);
                size++;
            }
        }

        private void rewind() {
            stop = 0;
            advance();
        }

        private void advance() {
            start = stop;
            while (start < size && kindOf(bytes[start]) == A_BLANK) {
                start++;
            }
            stop = start;
            kind = start < size ? kindOf(bytes[start]) : AT_END;
            number = 0;
            if (kind == A_SEMICOLON || kind == NO_TOKEN) {
                stop = start + 1;
                return;
            }
            while (stop < size && kindOf(bytes[stop]) == kind) {
                if (kind == A_NUMBER) {
                    number = Math.min(HUGE, number * 10 + bytes[stop] - '0');
                }
                stop++;
            }
        }

        private boolean standsOn(String text) {
            if (kind != A_WORD || stop - start != text.length()) {
                return false;
            }
            for (int i = 0; i < text.length(); i++) {
                if (bytes[start + i] != text.charAt(i)) {
                    return false;
                }
            }
            return true;
        }

        private static int kindOf(byte sign) {
            if (sign >= 'a' && sign <= 'z') {
                return A_WORD;
            }
            if (sign >= '0' && sign <= '9') {
                return A_NUMBER;
            }
            if (sign == ' ' || sign == '\n') {
                return A_BLANK;
            }
            return sign == ';' ? A_SEMICOLON : NO_TOKEN;
        }
    }

    /** Reads its tape as a desk; its methods answer false once the first fault is noted. */
    private static final class DeskReader {
        private static final int MISPLACED = 1;
        private static final int OUT_OF_BOUNDS = 2;
        private static final int TOO_MANY = 3;

        private final Tape tape = new Tape();
        /** The text is read into this one, so that a fault leaves the desk as it is. */
        private final Desk draft = new Desk();
        private int fault;
        private int place = NONE;
        private int value;

        private boolean readDesk() {
            fault = 0;
            place = NONE;
            draft.clear();
            tape.rewind();
            // every line has a byte at least, so the tape's size bounds them
            for (int i = 0; i < TAPE_BYTES && tape.kind != Tape.AT_END; i++) {
                if (!readLine() || !takeSemicolon()) {
                    return false;
                }
                draft.lines++;
            }
            return true;
        }

        private boolean blame(int what) {
            fault = what;
            place = tape.start;
            return false;
        }

        private boolean takeWord(String text) {
            if (!tape.standsOn(text)) {
                return blame(MISPLACED);
            }
            tape.advance();
            return true;
        }

        private boolean takeSemicolon() {
            if (tape.kind != Tape.A_SEMICOLON) {
                return blame(MISPLACED);
            }
            tape.advance();
            return true;
        }

        private boolean findNumber(int low, int high) {
            if (tape.kind != Tape.A_NUMBER) {
                return blame(MISPLACED);
            }
            if (tape.number < low || tape.number > high) {
                return blame(OUT_OF_BOUNDS);
            }
            value = tape.number;
            return true;
        }

        private boolean takeNumber(int low, int high) {
            if (!findNumber(low, high)) {
                return false;
            }
            tape.advance();
            return true;
        }

        private boolean takeNamed(String text, int low, int high) {
            return takeWord(text) && takeNumber(low, high);
        }

        private boolean readLine() {
            if (draft.lines == 0) {
                return readHead();
            }
            if (tape.standsOn("grades")) {
                return readGrades();
            }
            if (tape.standsOn("hearer")) {
                return draft.hearers < MOST_HEARERS ? readHearer() : blame(TOO_MANY);
            }
            if (tape.standsOn("word")) {
                return draft.words < MOST_WORDS ? readWord() : blame(TOO_MANY);
            }
            if (tape.standsOn("plan")) {
                return draft.plans < MOST_PLANS ? readPlan() : blame(TOO_MANY);
            }
            if (tape.standsOn("news")) {
                return draft.news < MOST_NEWS ? readNews() : blame(TOO_MANY);
            }
            return tape.standsOn("tells") ? readTells() : blame(MISPLACED);
        }

        private boolean readHead() {
            if (!takeWord("desk") || !takeNamed("states", 2, MOST_STATES)) {
                return false;
            }
            draft.states = value;
            if (!takeNamed("really", 0, draft.states - 1)) {
                return false;
            }
            draft.really = value;
            if (!takeNamed("days", 1, MOST_DAYS)) {
                return false;
            }
            draft.days = value;
            if (!takeNamed("heal", 0, 100)) {
                return false;
            }
            draft.heal = value;
            if (!takeNamed("leak", 0, 100)) {
                return false;
            }
            draft.leak = value;
            return true;
        }

        private boolean readGrades() {
            tape.advance();
            for (int state = 0; state < draft.states; state++) {
                if (!takeNumber(0, MOST_GRADE)) {
                    return false;
                }
                draft.grades[state] = value;
            }
            return true;
        }

        private boolean readHearer() {
            tape.advance();
            if (!takeWord("thinks")) {
                return false;
            }
            int sum = 0;
            for (int state = 0; state < draft.states; state++) {
                int low = sum == 0 && state == draft.states - 1 ? 1 : 0;
                if (!takeNumber(low, MOST_THOUGHT)) {
                    return false;
                }
                sum += value;
                draft.thoughts[draft.hearers * MOST_STATES + state] = value;
            }
            if (tape.standsOn("reckons")) {
                if (!takeNamed("reckons", 1, 5)) {
                    return false;
                }
                draft.reckonings[draft.hearers] = value;
            }
            draft.hearers++;
            return true;
        }

        private boolean readWord() {
            tape.advance();
            if (!takeNamed("shame", 0, 999)) {
                return false;
            }
            int shame = value;
            if (!takeNamed("of", 0, draft.states - 1)) {
                return false;
            }
            int set = 1 << value;
            for (int i = 0; i < TAPE_BYTES && tape.kind == Tape.A_NUMBER; i++) {
                if (!takeNumber(0, draft.states - 1)) {
                    return false;
                }
                set |= 1 << value;
            }
            draft.shames[draft.words] = shame;
            draft.meanings[draft.words] = set;
            draft.words++;
            return true;
        }

        private boolean readPlan() {
            tape.advance();
            int size = 0;
            for (int i = 0; i < TAPE_BYTES && (size == 0 || tape.kind == Tape.A_NUMBER); i++) {
                if (!findNumber(0, draft.words - 1)) {
                    return false;
                }
                if (size >= MOST_PLAN_WORDS) {
                    return blame(TOO_MANY);
                }
                draft.planWords[draft.plans * MOST_PLAN_WORDS + size] = value;
                size++;
                tape.advance();
            }
            draft.planSizes[draft.plans] = size;
            draft.plans++;
            return true;
        }

        private boolean readNews() {
            tape.advance();
            boolean good = tape.standsOn("good");
            if (!takeNamed(good ? "good" : "bad", 1, 99)) {
                return false;
            }
            draft.tidings[draft.news] = good ? value : -value;
            draft.news++;
            return true;
        }

        private boolean readTells() {
            tape.advance();
            if (!takeNumber(0, draft.hearers - 1)) {
                return false;
            }
            int teller = value;
            if (!findNumber(0, draft.hearers - 1)) {
                return false;
            }
            if (value == teller) {
                return blame(OUT_OF_BOUNDS);
            }
            draft.told[teller] |= 1 << value;
            tape.advance();
            return true;
        }
    }

    /** The changes of a desk that are not taken back, with what stood there before. */
    private static final class Log {
        private static final int GRADE = 0;
        private static final int REALLY = 1;
        private static final int THOUGHT = 2;

        private final int[] kinds = new int[MOST_CHANGES];
        private final int[] places = new int[MOST_CHANGES];
        private final int[] olds = new int[MOST_CHANGES];
        private int size;

        private void note(int kind, int at, int old) {
            if (size < MOST_CHANGES) {
                kinds[size] = kind;
                places[size] = at;
                olds[size] = old;
                size++;
            }
        }

        private void takeAll(Log other) {
            System.arraycopy(other.kinds, 0, kinds, 0, MOST_CHANGES);
            System.arraycopy(other.places, 0, places, 0, MOST_CHANGES);
            System.arraycopy(other.olds, 0, olds, 0, MOST_CHANGES);
            size = other.size;
        }
    }

    /** All that a text tells. One without lines is no desk: every has..() answers false of it. */
    private static final class Desk {
        private int states;
        private int really;
        private int days;
        private int heal;
        private int leak;
        private int lines;
        private int hearers;
        private int words;
        private int plans;
        private int news;
        private final int[] grades = new int[MOST_STATES];
        private final int[] thoughts = new int[MOST_HEARERS * MOST_STATES];
        private final int[] reckonings = new int[MOST_HEARERS];
        private final int[] told = new int[MOST_HEARERS];
        private final int[] shames = new int[MOST_WORDS];
        private final int[] meanings = new int[MOST_WORDS];
        private final int[] planSizes = new int[MOST_PLANS];
        private final int[] planWords = new int[MOST_PLANS * MOST_PLAN_WORDS];
        private final int[] tidings = new int[MOST_NEWS];
        private final Log log = new Log();

        private void clear() {
            states = 0;
            really = 0;
            days = 0;
            heal = 0;
            leak = 0;
            lines = 0;
            hearers = 0;
            words = 0;
            plans = 0;
            news = 0;
            log.size = 0;
            Arrays.fill(grades, 0);
            Arrays.fill(reckonings, 0);
            Arrays.fill(told, 0);
        }

        private void copyFrom(Desk other) {
            states = other.states;
            really = other.really;
            days = other.days;
            heal = other.heal;
            leak = other.leak;
            lines = other.lines;
            hearers = other.hearers;
            words = other.words;
            plans = other.plans;
            news = other.news;
            System.arraycopy(other.grades, 0, grades, 0, MOST_STATES);
            System.arraycopy(other.thoughts, 0, thoughts, 0, MOST_HEARERS * MOST_STATES);
            System.arraycopy(other.reckonings, 0, reckonings, 0, MOST_HEARERS);
            System.arraycopy(other.told, 0, told, 0, MOST_HEARERS);
            System.arraycopy(other.shames, 0, shames, 0, MOST_WORDS);
            System.arraycopy(other.meanings, 0, meanings, 0, MOST_WORDS);
            System.arraycopy(other.planSizes, 0, planSizes, 0, MOST_PLANS);
            System.arraycopy(other.planWords, 0, planWords, 0, MOST_PLANS * MOST_PLAN_WORDS);
            System.arraycopy(other.tidings, 0, tidings, 0, MOST_NEWS);
            log.takeAll(other.log);
        }

        private boolean stands() {
            return lines > 0;
        }

        private boolean hasState(int state) {
            return state >= 0 && state < states;
        }

        private boolean hasDay(int day) {
            return day >= 0 && day < days;
        }

        private boolean hasHearer(int hearer) {
            return hearer >= 0 && hearer < hearers;
        }

        private boolean hasWord(int word) {
            return word >= 0 && word < words;
        }

        private boolean canTell(int word) {
            return hasWord(word) || word == SILENCE;
        }

        private boolean hasPlan(int plan) {
            return plan >= 0 && plan < plans;
        }

        private boolean hasNews(int index) {
            return index >= 0 && index < news;
        }

        private boolean hasBelief(int belief) {
            return belief >= 1 && belief <= everything();
        }

        private int everything() {
            return (1 << states) - 1;
        }

        private int everybody() {
            return (1 << hearers) - 1;
        }

        private int truth() {
            return 1 << really;
        }

        private int thoughtOf(int hearer, int state) {
            return thoughts[hearer * MOST_STATES + state];
        }

        private boolean isTrue(int word) {
            return (meanings[word] >> really & 1) == 1;
        }

        private int shameOf(int word) {
            return hasWord(word) && !isTrue(word) ? shames[word] : 0;
        }

        private int planWord(int plan, int i) {
            return i >= 0 && i < planSizes[plan] ? planWords[plan * MOST_PLAN_WORDS + i] : NONE;
        }

        private int valueAt(int kind, int at) {
            if (kind == Log.GRADE) {
                return grades[at];
            }
            return kind == Log.THOUGHT ? thoughts[at] : really;
        }

        private void put(int kind, int at, int value) {
            if (kind == Log.GRADE) {
                grades[at] = value;
            } else if (kind == Log.THOUGHT) {
                thoughts[at] = value;
            } else {
                really = value;
            }
        }

        private int meanOf(int hearer, int belief) {
            int weight = 0;
            int weighed = 0;
            int members = 0;
            int plain = 0;
            for (int state = 0; state < states; state++) {
                if ((belief >> state & 1) == 1) {
                    int thought = thoughtOf(hearer, state);
                    weight += thought;
                    weighed += thought * grades[state];
                    members++;
                    plain += grades[state];
                }
            }
            if (weight > 0) {
                return 100 * weighed / weight;
            }
            return members > 0 ? 100 * plain / members : 0;
        }

        /** How likely a state is by a belief: what 0 above, what 1 below the fraction's line. */
        private int likelihood(int hearer, int belief, int state, int what) {
            int weight = 0;
            for (int other = 0; other < states; other++) {
                if ((belief >> other & 1) == 1) {
                    weight += thoughtOf(hearer, other);
                }
            }
            int part = weight > 0 ? thoughtOf(hearer, state) : 1;
            int whole = weight > 0 ? weight : Integer.bitCount(belief);
            if ((belief >> state & 1) == 0 || part == 0) {
                return what;
            }
            int common = commonDivisor(whole, part);
            if (common < 1) {
                return what;
            }
            return what == 0 ? part / common : whole / common;
        }

        private static int commonDivisor(int a, int b) {
            int high = a;
            int low = b;
            for (int i = 0; i < 64 && low > 0; i++) {
                int remainder = high % low;
                high = low;
                low = remainder;
            }
            return high;
        }

        /** Whatever is no word of the desk is silence. */
        private int nextBelief(int belief, int word) {
            if (!hasWord(word)) {
                return belief;
            }
            int common = belief & meanings[word];
            return common == 0 ? meanings[word] : common;
        }

        private int hurtBetween(int hearer, int from, int to) {
            return Mind.hurtOf(meanOf(hearer, to) - meanOf(hearer, from));
        }

        private int hurtAtOnce(int hearer) {
            return hurtBetween(hearer, everything(), truth());
        }

        private int leftOf(int hurt, int daysBehind) {
            return hurt * Math.max(0, 100 - heal * daysBehind) / 100;
        }

        private int inTheMean(int byLeak, int without) {
            return (leak * byLeak + (100 - leak) * without) / 100;
        }

        /** What a hurt costs that is kept for a day, if it leaks on none or on one ahead of it. */
        private int costOfWaiting(int hurt, int tellingDay) {
            int cost = leftOf(hurt, days - 1 - tellingDay);
            for (int day = tellingDay - 1; day >= 1; day--) {
                cost = inTheMean(leftOf(hurt, days - 1 - day), cost);
            }
            return cost;
        }

        /** What is believed behind all words that are true of a state. */
        private int sharpest(int state) {
            int belief = everything();
            for (int word = 0; word < words; word++) {
                if ((meanings[word] >> state & 1) == 1) {
                    belief &= meanings[word];
                }
            }
            return belief;
        }

        private int beliefBehindPlan(int plan) {
            int belief = everything();
            for (int i = 0; i < planSizes[plan]; i++) {
                belief = nextBelief(belief, planWord(plan, i));
            }
            return belief;
        }

        /** Those of a set of plans whose word i is this one. */
        private int plansWith(int set, int i, int word) {
            int fitting = 0;
            for (int plan = 0; plan < plans; plan++) {
                if ((set >> plan & 1) == 1 && planWord(plan, i) == word) {
                    fitting |= 1 << plan;
                }
            }
            return fitting;
        }

        private int knowingAfter(int set, int passed) {
            int knowing = set;
            // as many rounds as there are hearers reach all whom the news can reach
            for (int round = 0; round < passed && round < MOST_HEARERS; round++) {
                int next = knowing;
                for (int hearer = 0; hearer < hearers; hearer++) {
                    if ((knowing >> hearer & 1) == 1) {
                        next |= told[hearer];
                    }
                }
                knowing = next;
            }
            return knowing;
        }

        private int fewestToTell() {
            int found = everybody();
            for (int set = 0; set < everybody(); set++) {
                if (Integer.bitCount(set) < Integer.bitCount(found)
                        && knowingAfter(set, days - 1) == everybody()) {
                    found = set;
                }
            }
            return found;
        }

        private int drawLeak(int seed) {
            long x = seed;
            for (int day = 1; day < days; day++) {
                x = (1103515245L * x + 12345L) % 2147483648L;
                if (x / 65536L % 100L < leak) {
                    return day;
                }
            }
            return NONE;
        }
    }

    /** A slot's row; numbers are held cut to its width. */
    private static final class Row {
        private final long[] numbers = new long[MOST_NUMBERS];
        private boolean there;
        private int width;
        private int size;

        private void begin(int newWidth, int newSize) {
            there = true;
            width = newWidth;
            size = newSize;
            Arrays.fill(numbers, 0L);
        }

        private long cut(long v) {
            switch (width) {
                case 0:
                    return (byte) v;
                case 1:
                    return (short) v;
                case 2:
                    return (int) v;
                default:
                    return v;
            }
        }

        private boolean holds(int from, int n) {
            return from >= 0 && n >= 0 && from <= size && n <= size - from;
        }
    }

    /** A row of words told day by day, what is believed behind each day, and how each day hurts. */
    private static final class Week {
        private final int[] words = new int[MOST_DAYS];
        private final int[] beliefs = new int[MOST_DAYS];
        private final int[] pains = new int[MOST_DAYS];
        private final int[] order = new int[MOST_ORDERED];
        private final int[] bestOrder = new int[MOST_ORDERED];
        private int size;
        private int leastOrdered;
        private int fitting;
        private int knowingDay;
        private int knowingPlan;

        private boolean take(Row row, Desk desk) {
            size = 0;
            if (row.size > desk.days) {
                return false;
            }
            for (int day = 0; day < row.size && day < MOST_DAYS; day++) {
                long number = row.numbers[day];
                if (number != SILENCE && (number < 0 || number >= desk.words)) {
                    return false;
                }
                words[day] = (int) number;
            }
            size = row.size;
            return true;
        }

        private void believe(Desk desk) {
            int belief = desk.everything();
            for (int day = 0; day < size; day++) {
                belief = desk.nextBelief(belief, words[day]);
                beliefs[day] = belief;
            }
        }

        /** From a day on one belief stands, whatever is told. */
        private void overrule(int from, int belief) {
            for (int day = Math.max(0, from); day < size; day++) {
                beliefs[day] = belief;
            }
        }

        private void fillDays(Desk desk) {
            int belief = lastBelief(desk);
            for (int day = size; day < desk.days; day++) {
                words[day] = SILENCE;
                beliefs[day] = belief;
            }
            size = desk.days;
        }

        private void feel(Desk desk, int hearer) {
            int before = desk.everything();
            for (int day = 0; day < size; day++) {
                pains[day] = desk.hurtBetween(hearer, before, beliefs[day]);
                before = beliefs[day];
            }
        }

        private int lastBelief(Desk desk) {
            return size > 0 ? beliefs[size - 1] : desk.everything();
        }

        private int sumOfHurts() {
            int sum = 0;
            for (int day = 0; day < size; day++) {
                sum += pains[day];
            }
            return sum;
        }

        private int greatestHurt() {
            int most = 0;
            for (int day = 0; day < size; day++) {
                most = Math.max(most, pains[day]);
            }
            return most;
        }

        private int sumLeft(Desk desk) {
            int sum = 0;
            for (int day = 0; day < size; day++) {
                sum += desk.leftOf(pains[day], desk.days - 1 - day);
            }
            return sum;
        }

        private int firstLie(Desk desk) {
            for (int day = 0; day < size; day++) {
                if (words[day] != SILENCE && !desk.isTrue(words[day])) {
                    return day;
                }
            }
            return NONE;
        }

        private int sumOfShame(Desk desk) {
            int sum = 0;
            for (int day = 0; day < size; day++) {
                sum += desk.shameOf(words[day]);
            }
            return sum;
        }

        private int knownFrom(int truth) {
            int found = NONE;
            for (int day = size - 1; day >= 0 && beliefs[day] == truth; day--) {
                found = day;
            }
            return found;
        }

        private int statesMeant(Desk desk) {
            int set = desk.everything();
            for (int day = 0; day < size; day++) {
                if (words[day] != SILENCE) {
                    set &= desk.meanings[words[day]];
                }
            }
            return set;
        }

        /** Follows the plans that fit; who needs 0 words does not reckon and never knows by one. */
        private void reckon(Desk desk, int needed) {
            fitting = (1 << desk.plans) - 1;
            knowingDay = NONE;
            knowingPlan = NONE;
            int told = 0;
            for (int day = 0; day < size; day++) {
                if (words[day] != SILENCE) {
                    fitting = desk.plansWith(fitting, told, words[day]);
                    told++;
                    boolean sure = needed > 0 && told >= needed && Integer.bitCount(fitting) == 1;
                    if (sure && knowingDay == NONE) {
                        knowingDay = day;
                        knowingPlan = Integer.numberOfTrailingZeros(fitting);
                    }
                }
            }
        }

        /** Goes through all orders from the least row up, so that the first best one stays. */
        private void orderSoftly(Desk desk, Mind mind) {
            for (int i = 0; i < size && i < MOST_ORDERED; i++) {
                order[i] = i;
            }
            leastOrdered = NEVER;
            boolean more = true;
            for (int i = 0; i < 720 && more; i++) {
                int cost = leftByOrder(desk, mind);
                if (cost < leastOrdered) {
                    leastOrdered = cost;
                    System.arraycopy(order, 0, bestOrder, 0, MOST_ORDERED);
                }
                more = nextOrder();
            }
        }

        private int leftByOrder(Desk desk, Mind mind) {
            int belief = desk.everything();
            int sum = 0;
            for (int day = 0; day < size && day < MOST_ORDERED; day++) {
                int next = desk.nextBelief(belief, words[order[day]]);
                sum += desk.leftOf(mind.pain(belief, next), desk.days - 1 - day);
                belief = next;
            }
            return sum;
        }

        private boolean nextOrder() {
            int pivot = size - 2;
            while (pivot >= 0 && order[pivot] > order[pivot + 1]) {
                pivot--;
            }
            if (pivot < 0) {
                return false;
            }
            int other = size - 1;
            while (other > pivot && order[other] < order[pivot]) {
                other--;
            }
            swap(pivot, other);
            for (int low = pivot + 1, high = size - 1; low < high; low++, high--) {
                swap(low, high);
            }
            return true;
        }

        private void swap(int i, int j) {
            int kept = order[i];
            order[i] = order[j];
            order[j] = kept;
        }
    }

    /** One hearer's mean by every belief, reckoned once for calls that ask for many steps. */
    private static final class Mind {
        private final int[] means = new int[BELIEFS];

        private void study(Desk desk, int hearer) {
            for (int belief = 1; belief <= desk.everything() && belief < BELIEFS; belief++) {
                means[belief] = desk.meanOf(hearer, belief);
            }
        }

        private int pain(int from, int to) {
            return hurtOf(means[to] - means[from]);
        }

        private static int hurtOf(int rise) {
            return rise > 0 ? rise * rise / 100 : 0;
        }
    }

    /** The beliefs that words can bring about from one, with the fewest words for each. */
    private static final class Reach {
        private final int[] beliefs = new int[BELIEFS];
        /** NEVER for a belief that can't be brought about. */
        private final int[] distances = new int[BELIEFS];
        private int size;

        private void grow(Desk desk, int start) {
            Arrays.fill(distances, NEVER);
            size = 0;
            add(start, 0);
            for (int i = 0; i < size && i < BELIEFS; i++) {
                int belief = beliefs[i];
                for (int word = 0; word < desk.words; word++) {
                    add(desk.nextBelief(belief, word), distances[belief] + 1);
                }
            }
        }

        private void add(int belief, int distance) {
            if (distances[belief] == NEVER && size < BELIEFS) {
                distances[belief] = distance;
                beliefs[size] = belief;
                size++;
            }
        }
    }

    /**
     * The least weeks, from the end back: for so many days still to come and each belief the least
     * cost by which it is known at the end. What is left of a hurt hangs on the days behind it
     * alone, so one table serves weeks of every length.
     */
    private static final class Planner {
        private final int[] table = new int[(MOST_DAYS + 1) * BELIEFS];
        private final int[] firstRow = new int[MOST_DAYS];
        private int cost;
        private boolean gentle;
        private boolean honest;

        private void solve(Desk desk, Mind mind, Reach reach, boolean isGentle, boolean isHonest) {
            gentle = isGentle;
            honest = isHonest;
            for (int i = 0; i < reach.size; i++) {
                int belief = reach.beliefs[i];
                table[belief] = belief == desk.truth() ? 0 : NEVER;
            }
            for (int days = 1; days <= desk.days; days++) {
                for (int i = 0; i < reach.size; i++) {
                    int belief = reach.beliefs[i];
                    table[days * BELIEFS + belief] = leastFrom(desk, mind, days, belief);
                }
            }
            int least = costWithDays(desk.days, desk.everything());
            cost = least == NEVER ? NONE : least;
            if (cost != NONE) {
                findFirstRow(desk, mind);
            }
        }

        private int costWithDays(int days, int belief) {
            return table[days * BELIEFS + belief];
        }

        private int leastFrom(Desk desk, Mind mind, int days, int belief) {
            int least = costBy(desk, mind, SILENCE, days, belief);
            for (int word = 0; word < desk.words; word++) {
                least = Math.min(least, costBy(desk, mind, word, days, belief));
            }
            return least;
        }

        private int costBy(Desk desk, Mind mind, int word, int days, int belief) {
            if (honest && word != SILENCE && !desk.isTrue(word)) {
                return NEVER;
            }
            int next = desk.nextBelief(belief, word);
            int rest = costWithDays(days - 1, next);
            if (rest == NEVER) {
                return NEVER;
            }
            int hurt = mind.pain(belief, next);
            if (gentle) {
                return Math.max(hurt, rest);
            }
            return desk.leftOf(hurt, days - 1) + desk.shameOf(word) + rest;
        }

        /**
         * The least word each day by which the best can still be had. A greatest hurt may be
         * reached on any day, so gently it bounds the whole row; a sum is spent day by day.
         */
        private void findFirstRow(Desk desk, Mind mind) {
            int belief = desk.everything();
            int bound = cost;
            for (int day = 0; day < desk.days; day++) {
                int days = desk.days - day;
                int word = SILENCE;
                for (int choice = desk.words - 1; choice >= 0; choice--) {
                    if (costBy(desk, mind, choice, days, belief) <= bound) {
                        word = choice;
                    }
                }
                firstRow[day] = word;
                belief = desk.nextBelief(belief, word);
                if (!gentle) {
                    bound = costWithDays(days - 1, belief);
                }
            }
        }

        private int wordsUsed(int days) {
            int set = 0;
            for (int day = 0; day < days; day++) {
                if (firstRow[day] != SILENCE) {
                    set |= 1 << firstRow[day];
                }
            }
            return set;
        }
    }

    /** The least mean cost by any words with leaks ahead, from the last day back. */
    private static final class Risks {
        private final int[] later = new int[BELIEFS];
        private final int[] fresh = new int[BELIEFS];
        private int cost;
        private int word;

        private void weigh(Desk desk, Mind mind, Reach reach, int day, int belief) {
            for (int i = 0; i < reach.size; i++) {
                int last = reach.beliefs[i];
                later[last] = last == desk.truth() ? 0 : UNKNOWN_PRICE;
            }
            for (int ahead = desk.days - 1; ahead > day; ahead--) {
                for (int i = 0; i < reach.size; i++) {
                    int then = reach.beliefs[i];
                    choose(desk, mind, ahead, then);
                    int byLeak = desk.leftOf(mind.pain(then, desk.truth()), desk.days - 1 - ahead);
                    fresh[then] = desk.inTheMean(byLeak, cost);
                }
                System.arraycopy(fresh, 0, later, 0, BELIEFS);
            }
            choose(desk, mind, day, belief);
        }

        /** The least word of a day that has not leaked, and its cost. */
        private void choose(Desk desk, Mind mind, int day, int belief) {
            cost = later[belief];
            word = SILENCE;
            for (int choice = desk.words - 1; choice >= 0; choice--) {
                int next = desk.nextBelief(belief, choice);
                int hurt = desk.leftOf(mind.pain(belief, next), desk.days - 1 - day);
                int byChoice = hurt + desk.shameOf(choice) + later[next];
                if (byChoice <= cost) {
                    cost = byChoice;
                    word = choice;
                }
            }
        }
    }

    /** News shared out to the letters of the first days. */
    private static final class Letters {
        private final int[] sharedDays = new int[MOST_NEWS];
        private final int[] bestDays = new int[MOST_NEWS];
        private final int[] sums = new int[MOST_LETTERS];
        private int least;

        /** Goes through all rows of days from the least up, so that the first best one stays. */
        private void share(Desk desk, int n) {
            int days = Math.min(Math.min(n, desk.days), MOST_LETTERS);
            Arrays.fill(sharedDays, 0);
            least = NEVER;
            boolean more = true;
            // 4 letters for each of 6 news make 4096 rows
            for (int i = 0; i < 4096 && more; i++) {
                int cost = leftByRow(desk, days);
                if (cost < least) {
                    least = cost;
                    System.arraycopy(sharedDays, 0, bestDays, 0, MOST_NEWS);
                }
                more = nextRow(desk.news, days);
            }
        }

        private int leftByRow(Desk desk, int days) {
            Arrays.fill(sums, 0);
            for (int i = 0; i < desk.news; i++) {
                sums[sharedDays[i]] -= desk.tidings[i];
            }
            int cost = 0;
            for (int day = 0; day < days; day++) {
                int bad = Math.max(0, sums[day]);
                cost += desk.leftOf(bad * bad, desk.days - 1 - day);
            }
            return cost;
        }

        private boolean nextRow(int news, int days) {
            for (int i = news - 1; i >= 0; i--) {
                if (sharedDays[i] < days - 1) {
                    sharedDays[i]++;
                    return true;
                }
                sharedDays[i] = 0;
            }
            return false;
        }
    }
}
