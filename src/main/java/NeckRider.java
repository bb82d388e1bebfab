/**
 * An isle told as a text, the old man who rides its bearers, and what can be asked of both.
 *
 * Every row is made in a constructor and used again: no call makes an object.
 */
public final class NeckRider {
    public static final int NONE = -1;

    private static final int MISSING = -2;
    private static final int NEGATIVE = -3;
    private static final int FAULTY = -4;
    private static final int REFUSED = -5;
    private static final int EMPTY = -6;
    private static final int BEYOND = -7;
    private static final int UNLIKE = -8;

    private static final int MOST_BYTES = 800;
    private static final int FED_BYTES = 20;
    private static final int MOST_PLACES = 7;
    private static final int MOST_HOURS = 12;
    private static final int MOST_PATHS = 10;
    private static final int MOST_TREES = 5;
    private static final int MOST_VINES = 3;
    private static final int MOST_BEARERS = 5;
    private static final int MOST_FRUIT = 9;
    private static final int MOST_WEIGHT = 20;
    private static final int MOST_ODDS = 10;
    private static final int MOST_STRENGTH = 99;
    private static final int IMAGES = 3;
    private static final int SLOTS = 4;
    private static final int WIDTHS = 4;
    private static final int MOST_NUMBERS = 60;
    private static final int MOST_SEED = 2000000000;
    private static final int MOST_DAYS = 20;

    // What is done in an HOUR, as does() tells it.
    private static final int NOTHING = 0;
    private static final int SLEEPS = 1;
    private static final int EATS = 2;
    private static final int CARRIED = 3;
    private static final int STAYS = 4;
    private static final int THROWN = 5;

    // Acts, as plan() tells them.
    private static final int NO_ACT = 0;
    private static final int OFFER = 1;
    private static final int THROW = 2;
    private static final int CARRY = 10;

    private final Tape tape;
    private final Isle isle;
    private final Isle draft;
    private final Acts acts;
    private final Acts noActs;
    private final Story story;
    private final Story trial;
    private final Hunt plans;
    private final Hunt guess;
    private final Seen seen;
    private final Day day;
    private final Slot[] slots;
    private final Isle[] keptIsles;
    private final Acts[] keptActs;
    private int keptBits;
    private boolean plansKnown;

    public NeckRider() {
        tape = new Tape();
        isle = new Isle();
        draft = new Isle();
        acts = new Acts();
        noActs = new Acts();
        story = new Story();
        trial = new Story();
        plans = new Hunt();
        guess = new Hunt();
        seen = new Seen();
        day = new Day();
        slots = new Slot[SLOTS];
        for (int slot = 0; slot < SLOTS; slot++) {
            slots[slot] = new Slot();
        }
        keptIsles = new Isle[IMAGES];
        keptActs = new Acts[IMAGES];
        for (int k = 0; k < IMAGES; k++) {
            keptIsles[k] = new Isle();
            keptActs[k] = new Acts();
        }
        keptBits = 0;
        plansKnown = false;
    }

    // ---- the text and the isle ----

    public int feed(int a, int b, int c, int d, int e) {
        if (tape.size > MOST_BYTES - FED_BYTES) {
            return NONE;
        }
        tape.push(a);
        tape.push(b);
        tape.push(c);
        tape.push(d);
        tape.push(e);
        return tape.size;
    }

    public int end(int n) {
        if (n < 0 || n > tape.size) {
            return NONE;
        }
        tape.size = n;
        return n;
    }

    public int isle() {
        boolean sound = tape.readInto(draft);
        tape.size = 0;
        if (!sound) {
            return FAULTY;
        }
        isle.copyFrom(draft);
        acts.clear();
        isleChanged();
        return isle.lines;
    }

    public int fault(int what) {
        if (what == 0) {
            return tape.fault;
        }
        return what == 1 ? tape.faultPlace : NONE;
    }

    public int tree(int tree, int what) {
        if (!within(tree, isle.trees) || !within(what, 2)) {
            return MISSING;
        }
        return what == 0 ? Cells.get(isle.treePlace, tree) : Cells.get(isle.treeFruit, tree);
    }

    public int vine(int vine, int what) {
        if (!within(vine, isle.vines) || !within(what, 2)) {
            return MISSING;
        }
        return what == 0 ? Cells.get(isle.vinePlace, vine) : Cells.get(isle.vineRipe, vine);
    }

    public int bearer(int bearer, int what) {
        if (!within(bearer, isle.bearers) || !within(what, 2)) {
            return MISSING;
        }
        return what == 0 ? isle.homeOf(bearer) : Cells.get(isle.bearerStrength, bearer);
    }

    public int brooks() {
        return isle.isTold() ? isle.brookBits : MISSING;
    }

    public int way(int place, int other) {
        if (!isPlace(place) || !isPlace(other)) {
            return MISSING;
        }
        return isle.wayBetween(place, other);
    }

    public int beside(int place) {
        return isPlace(place) ? Cells.get(isle.besideBits, place) : MISSING;
    }

    public int steers(int place) {
        return isPlace(place) ? isle.steering(place, isle.treeFruit) : MISSING;
    }

    public int reach(int place) {
        return isPlace(place) ? isle.reachBits(place) : MISSING;
    }

    public int lone() {
        if (!isle.isTold()) {
            return MISSING;
        }
        if (isle.bearers == 0) {
            return 0;
        }
        int near = isle.reachBits(isle.homeOf(0));
        int bits = 0;
        for (int tree = 0; tree < isle.trees; tree++) {
            if (!Cells.bit(near, Cells.get(isle.treePlace, tree))) {
                bits |= 1 << tree;
            }
        }
        return bits;
    }

    // ---- the ride, acts as now ----

    public int at(int hour) {
        return isMoment(hour) ? Cells.get(story.places, hour) : MISSING;
    }

    public int on(int hour) {
        return isMoment(hour) ? Cells.get(story.bearers, hour) : MISSING;
    }

    public int weighs(int hour) {
        return isMoment(hour) ? Cells.get(story.weights, hour) : MISSING;
    }

    public int tired(int bearer, int hour) {
        if (!within(bearer, isle.bearers) || !isMoment(hour)) {
            return MISSING;
        }
        return story.tiredOf(bearer, hour);
    }

    public int fruit(int tree, int hour) {
        if (!within(tree, isle.trees) || !isMoment(hour)) {
            return MISSING;
        }
        return story.fruitOf(tree, hour);
    }

    public int does(int hour) {
        return isHour(hour) ? Cells.get(story.deeds, hour) : MISSING;
    }

    public int drunk(int hour) {
        return isHour(hour) ? Cells.get(story.drunken, hour) : MISSING;
    }

    public int over() {
        return isle.isTold() ? story.endHour : MISSING;
    }

    public int how() {
        return isle.isTold() ? story.endKind : MISSING;
    }

    public int eats() {
        return isle.isTold() ? story.eaten : MISSING;
    }

    public int carries(int bearer) {
        return within(bearer, isle.bearers) ? Cells.get(story.carried, bearer) : MISSING;
    }

    public int fallen() {
        return isle.isTold() ? story.fallenBits : MISSING;
    }

    public int worst() {
        if (!isle.isTold()) {
            return MISSING;
        }
        int found = NONE;
        int most = 0;
        for (int bearer = 0; bearer < isle.bearers; bearer++) {
            int paths = Cells.get(story.carried, bearer);
            if (paths > most) {
                most = paths;
                found = bearer;
            }
        }
        return found;
    }

    public int share(int bearer, int what) {
        if (!within(bearer, isle.bearers) || !within(what, 2)) {
            return MISSING;
        }
        int all = 0;
        for (int other = 0; other < isle.bearers; other++) {
            all += Cells.get(story.carried, other);
        }
        if (all == 0) {
            return NONE;
        }
        return (int) Sums.lowest(Cells.get(story.carried, bearer), all, what);
    }

    public int comes(int place) {
        if (!isPlace(place)) {
            return MISSING;
        }
        for (int hour = 0; hour < isle.hours; hour++) {
            if (Cells.get(story.places, hour) == place) {
                return hour;
            }
        }
        return NONE;
    }

    public int stays(int place) {
        if (!isPlace(place)) {
            return MISSING;
        }
        int bits = 0;
        for (int hour = 0; hour <= isle.hours; hour++) {
            if (Cells.get(story.places, hour) == place) {
                bits |= 1 << hour;
            }
        }
        return bits;
    }

    public int left(int hour) {
        if (!isMoment(hour)) {
            return MISSING;
        }
        int sum = 0;
        for (int tree = 0; tree < isle.trees; tree++) {
            sum += story.fruitOf(tree, hour);
        }
        return sum;
    }

    public int peak(int bearer) {
        if (!within(bearer, isle.bearers)) {
            return MISSING;
        }
        int most = 0;
        for (int hour = 0; hour <= isle.hours; hour++) {
            most = Math.max(most, story.tiredOf(bearer, hour));
        }
        return most;
    }

    public int hungry() {
        if (!isle.isTold()) {
            return MISSING;
        }
        for (int hour = 0; hour < isle.hours; hour++) {
            if (Cells.get(story.deeds, hour) == STAYS) {
                return hour;
            }
        }
        return NONE;
    }

    public int ripens(int vine) {
        if (!within(vine, isle.vines)) {
            return MISSING;
        }
        int place = Cells.get(isle.vinePlace, vine);
        for (int hour = Cells.get(isle.vineRipe, vine); hour < isle.hours; hour++) {
            if (Cells.get(story.places, hour) == place) {
                return hour;
            }
        }
        return NONE;
    }

    // ---- the ride, if something were otherwise ----

    public int from(int bearer) {
        return within(bearer, isle.bearers) ? endFrom(bearer) : MISSING;
    }

    public int best() {
        if (!isle.isTold()) {
            return MISSING;
        }
        int found = NONE;
        int soonest = MOST_HOURS;
        for (int bearer = 0; bearer < isle.bearers; bearer++) {
            int hour = lateness(endFrom(bearer));
            if (hour < soonest) {
                soonest = hour;
                found = bearer;
            }
        }
        return found;
    }

    public int needs(int bearer) {
        if (!within(bearer, isle.bearers)) {
            return MISSING;
        }
        draft.copyFrom(isle);
        for (int strength = 1; strength <= MOST_STRENGTH; strength++) {
            Cells.put(draft.bearerStrength, bearer, strength);
            trial.tell(draft, acts, 0, draft.homeOf(0));
            if (!Cells.bit(trial.fallenBits, bearer)) {
                return strength;
            }
        }
        return NONE;
    }

    public int drops() {
        if (!isle.isTold()) {
            return MISSING;
        }
        draft.copyFrom(isle);
        for (int weight = 1; weight <= MOST_WEIGHT; weight++) {
            draft.weight = weight;
            trial.tell(draft, noActs, 0, draft.homeOf(0));
            if (trial.endKind == Ride.BY_DROP) {
                return weight;
            }
        }
        return NONE;
    }

    // ---- plans to be rid of him ----

    public int rid() {
        return isle.isTold() ? knownPlans().hour : MISSING;
    }

    public int ways() {
        return isle.isTold() ? knownPlans().rows : MISSING;
    }

    public int plan(int hour) {
        if (!isHour(hour)) {
            return MISSING;
        }
        Hunt known = knownPlans();
        return known.hour == NONE ? NONE : Cells.get(known.firstRow, hour);
    }

    public int wine() {
        if (!isle.isTold()) {
            return MISSING;
        }
        int found = NONE;
        int latest = lateness(knownPlans().hour);
        for (int vine = 0; vine < isle.vines; vine++) {
            int hour = lateness(ridWithoutVine(vine));
            if (hour > latest) {
                latest = hour;
                found = vine;
            }
        }
        return found;
    }

    public int bend() {
        if (!isle.isTold()) {
            return MISSING;
        }
        int found = NONE;
        int soonest = lateness(knownPlans().hour);
        for (int tree = 0; tree < isle.trees; tree++) {
            int hour = lateness(ridWithoutTree(tree));
            if (hour < soonest) {
                soonest = hour;
                found = tree;
            }
        }
        return found;
    }

    public int bent(int tree) {
        return within(tree, isle.trees) ? ridWithoutTree(tree) : MISSING;
    }

    public int dam(int place) {
        return isPlace(place) ? ridWithBrook(place) : MISSING;
    }

    public int dams() {
        if (!isle.isTold()) {
            return MISSING;
        }
        int found = NONE;
        int soonest = lateness(knownPlans().hour);
        for (int place = 0; place < isle.places; place++) {
            int hour = lateness(ridWithBrook(place));
            if (hour < soonest) {
                soonest = hour;
                found = place;
            }
        }
        return found;
    }

    // ---- how long he rode, by what is left ----

    public int fits(int slot) {
        int wrong = lookAt(slot);
        return wrong == 0 ? seen.pairs : wrong;
    }

    public int rode(int slot) {
        int wrong = lookAt(slot);
        return wrong == 0 ? seen.hourBits : wrong;
    }

    public int began(int slot) {
        int wrong = lookAt(slot);
        return wrong == 0 ? seen.placeBits : wrong;
    }

    public int ask(int slot) {
        int wrong = lookAt(slot);
        return wrong == 0 ? seen.bestTree(isle.trees) : wrong;
    }

    public int leaves(int slot) {
        int wrong = lookAt(slot);
        if (wrong != 0) {
            return wrong;
        }
        int tree = seen.bestTree(isle.trees);
        return tree == NONE ? seen.pairs : seen.mostAlike(tree);
    }

    // ---- riders and ridden, signs, newcomers ----

    public int rests(int worth, int burden) {
        if (!within(worth, 100) || !within(burden, 100)) {
            return MISSING;
        }
        return Sums.restBits(worth, burden);
    }

    public int signs(int k, int n, int known) {
        if (k < 1 || k > 9 || !within(n, 1000) || !within(known, 1000)) {
            return MISSING;
        }
        int words = 1;
        for (int length = 1; length <= 9; length++) {
            words *= k;
            if (Math.max(words - known, 0) >= n) {
                return length;
            }
        }
        return NONE;
    }

    public int asked(int n, int r, int p, int what) {
        if (n < 1 || n > 99 || r < 0 || r > n || !within(p, 11) || !within(what, 2)) {
            return MISSING;
        }
        int all = Sums.askers(n, r, p);
        return all == 0 ? NONE : (int) Sums.lowest(10 * r, all, what);
    }

    public int trust(int n, int p, int q) {
        if (n < 1 || n > 99 || !within(p, 11) || !within(q, 101)) {
            return MISSING;
        }
        for (int r = n; r > 0; r--) {
            // Where nobody asks both sides are 0, and the odds count as 0.
            if (100 * 10 * r <= q * Sums.askers(n, r, p)) {
                return r;
            }
        }
        return 0;
    }

    // ---- chances and days drawn ----

    public long chance(int what) {
        if (!isle.isTold() || !within(what, 2)) {
            return MISSING;
        }
        return Sums.power(Sums.lowest(10 - isle.odds, 10, what), story.eaten);
    }

    public int sure(int p) {
        if (!isle.isTold() || !within(p, 101)) {
            return MISSING;
        }
        int last = 0;
        int meals = 0;
        for (int hour = 1; hour <= isle.hours; hour++) {
            if (Cells.get(story.deeds, hour - 1) == EATS) {
                meals++;
            }
            if (100 * Sums.power(10 - isle.odds, meals) >= p * Sums.power(10, meals)) {
                last = hour;
            }
        }
        return last;
    }

    public int drawn(int seed, int what) {
        if (!isle.isTold() || seed < 0 || seed > MOST_SEED || !within(what, 3)) {
            return MISSING;
        }
        day.pass(isle, story, seed);
        if (what == 0) {
            return day.endHour;
        }
        return what == 1 ? day.choked : day.draws;
    }

    public int luck(int seed, int n) {
        if (!isle.isTold() || seed < 0 || seed > MOST_SEED || n < 1 || n > MOST_DAYS) {
            return MISSING;
        }
        int sum = 0;
        for (int i = 0; i < n; i++) {
            day.pass(isle, story, seed + i);
            sum += day.choked;
        }
        return sum;
    }

    // ---- acts ----

    public int offer(int hour) {
        return isHour(hour) ? act(hour, OFFER) : MISSING;
    }

    public int carry(int hour, int place) {
        return isHour(hour) && isPlace(place) ? act(hour, CARRY + place) : MISSING;
    }

    public int toss(int hour) {
        return isHour(hour) ? act(hour, THROW) : MISSING;
    }

    public int undo() {
        if (!isle.isTold()) {
            return MISSING;
        }
        if (acts.size == 0) {
            return REFUSED;
        }
        acts.dropLatest();
        story.tell(isle, acts, 0, isle.homeOf(0));
        return acts.size;
    }

    public int anew() {
        if (!isle.isTold()) {
            return MISSING;
        }
        int were = acts.size;
        acts.clear();
        story.tell(isle, acts, 0, isle.homeOf(0));
        return were;
    }

    public int grow(int tree, int n) {
        if (!within(tree, isle.trees) || !within(n, MOST_FRUIT + 1)) {
            return MISSING;
        }
        if (acts.size > 0) {
            return REFUSED;
        }
        int was = Cells.get(isle.treeFruit, tree);
        Cells.put(isle.treeFruit, tree, n);
        isleChanged();
        return was;
    }

    // ---- counts, images, slots ----

    public int count(int what) {
        switch (what) {
            case 0: return isle.places;
            case 1: return isle.hours;
            case 2: return isle.weight;
            case 3: return isle.odds;
            case 4: return isle.paths;
            case 5: return isle.trees;
            case 6: return isle.vines;
            case 7: return isle.bearers;
            case 8: return acts.size;
            case 9: return isle.lines;
            case 10: return tape.size;
            case 11: return rowsHeld();
            default: return NONE;
        }
    }

    public int image(int k) {
        if (!within(k, keptIsles.length) || !within(k, keptActs.length)) {
            return MISSING;
        }
        keptIsles[k].copyFrom(isle);
        keptActs[k].copyFrom(acts);
        keptBits |= 1 << k;
        return 0;
    }

    public int back(int k) {
        if (!within(k, keptIsles.length) || !within(k, keptActs.length)) {
            return MISSING;
        }
        if (!Cells.bit(keptBits, k)) {
            return EMPTY;
        }
        isle.copyFrom(keptIsles[k]);
        acts.copyFrom(keptActs[k]);
        isleChanged();
        return 0;
    }

    public int row(int slot, int width, int n) {
        if (!within(slot, slots.length) || !within(width, WIDTHS) || n > MOST_NUMBERS) {
            return MISSING;
        }
        if (n < 0) {
            return NEGATIVE;
        }
        slots[slot].renew(width, n);
        return 0;
    }

    public int write(int slot, int i, long v) {
        if (!within(slot, slots.length)) {
            return MISSING;
        }
        Slot held = slots[slot];
        if (held.size == NONE) {
            return EMPTY;
        }
        if (!within(i, held.size)) {
            return BEYOND;
        }
        held.set(i, v);
        return 0;
    }

    public int paste(int slot, int i, int to, int k, int n) {
        if (!within(slot, slots.length) || !within(to, slots.length)) {
            return MISSING;
        }
        Slot source = slots[slot];
        Slot goal = slots[to];
        if (source.size == NONE || goal.size == NONE) {
            return EMPTY;
        }
        if (source.width != goal.width) {
            return UNLIKE;
        }
        if (!source.spans(i, n) || !goal.spans(k, n)) {
            return BEYOND;
        }
        System.arraycopy(source.numbers, i, goal.numbers, k, n);
        return 0;
    }

    // ---- helpers ----

    private static boolean within(int i, int bound) {
        return i >= 0 && i < bound;
    }

    private boolean isPlace(int place) {
        return within(place, isle.places);
    }

    private boolean isHour(int hour) {
        return within(hour, isle.hours);
    }

    /** An HOUR, or the end of the last one. */
    private boolean isMoment(int hour) {
        return isle.isTold() && hour >= 0 && hour <= isle.hours;
    }

    private void isleChanged() {
        plansKnown = false;
        story.tell(isle, acts, 0, isle.homeOf(0));
    }

    private int act(int hour, int code) {
        if (acts.codeIn(hour) != NO_ACT) {
            return REFUSED;
        }
        acts.add(hour, code);
        story.tell(isle, acts, 0, isle.homeOf(0));
        return Cells.get(story.worked, hour);
    }

    private int endFrom(int bearer) {
        trial.tell(isle, noActs, bearer, isle.homeOf(bearer));
        return trial.endHour;
    }

    /** None is later than every HOUR. */
    private static int lateness(int hour) {
        return hour == NONE ? MOST_HOURS : hour;
    }

    private Hunt knownPlans() {
        if (!plansKnown) {
            plans.search(isle);
            plansKnown = true;
        }
        return plans;
    }

    private int ridWithoutVine(int vine) {
        draft.copyFrom(isle);
        // A vine that ripens behind the last HOUR is as good as none.
        Cells.put(draft.vineRipe, vine, MOST_HOURS + 1);
        guess.search(draft);
        return guess.hour;
    }

    private int ridWithoutTree(int tree) {
        draft.copyFrom(isle);
        // He neither eats of a bare tree nor steers to it: it is as good as none.
        Cells.put(draft.treeFruit, tree, 0);
        guess.search(draft);
        return guess.hour;
    }

    private int ridWithBrook(int place) {
        draft.copyFrom(isle);
        draft.brookBits |= 1 << place;
        guess.search(draft);
        return guess.hour;
    }

    /** Gathers what fits a SLOT's row: 0, or why that can't be told. */
    private int lookAt(int slot) {
        if (!isle.isTold() || !within(slot, slots.length)) {
            return MISSING;
        }
        Slot held = slots[slot];
        if (held.size == NONE) {
            return EMPTY;
        }
        if (!seen.isSound(isle, held)) {
            return MISSING;
        }
        seen.clear();
        // Without BEARERS there is none on whom he could have begun.
        int starts = isle.bearers == 0 ? 0 : isle.places;
        for (int place = 0; place < starts; place++) {
            trial.tell(isle, noActs, 0, place);
            seen.gather(isle, held, trial, place);
        }
        return 0;
    }

    private int rowsHeld() {
        int sum = 0;
        for (int slot = 0; slot < slots.length; slot++) {
            if (slots[slot].size != NONE) {
                sum++;
            }
        }
        return sum;
    }

    /** Rows of numbers, looked into and written only where they have a number. */
    private static final class Cells {
        private static int get(int[] row, int i) {
            return i >= 0 && i < row.length ? row[i] : 0;
        }

        private static void put(int[] row, int i, int value) {
            if (i >= 0 && i < row.length) {
                row[i] = value;
            }
        }

        private static void add(int[] row, int i, int more) {
            if (i >= 0 && i < row.length) {
                row[i] += more;
            }
        }

        private static void fill(int[] row, int value) {
            for (int i = 0; i < row.length; i++) {
                row[i] = value;
            }
        }

        private static void copy(int[] source, int[] goal) {
            System.arraycopy(source, 0, goal, 0, Math.min(source.length, goal.length));
        }

        private static boolean bit(int bits, int i) {
            return i >= 0 && i < 32 && (bits >> i & 1) == 1;
        }
    }

    /** The fed bytes, and how they are read as the LINES of an isle. */
    private static final class Tape {
        private static final int END = 0;
        private static final int WORD = 1;
        private static final int NUMBER = 2;
        private static final int SIGN = 3;
        private static final int STRANGE = 4;
        private static final int TOKEN_FAULT = 1;
        private static final int NUMBER_FAULT = 2;
        private static final int COUNT_FAULT = 3;
        /** Above every bound, and far from the end of int. */
        private static final int HUGE = 1000000;

        private final int[] bytes = new int[MOST_BYTES];
        private int size = 0;
        private int fault = 0;
        private int faultPlace = NONE;
        private int kind = END;
        private int start = 0;
        private int stop = 0;

        private void push(int number) {
            for (int shift = 24; shift >= 0; shift -= 8) {
                Cells.put(bytes, size, number >> shift & 255);
                size++;
            }
        }

        /** Whether there is no fault; the isle is sound then alone. */
        private boolean readInto(Isle isle) {
            fault = 0;
            faultPlace = NONE;
            stop = 0;
            isle.clear();
            nextToken();
            for (int line = 0; line <= MOST_BYTES && kind != END && fault == 0; line++) {
                readLine(isle);
                isle.lines++;
            }
            if (fault == 0) {
                isle.measure();
            }
            return fault == 0;
        }

        private void readLine(Isle isle) {
            if (isle.lines == 0) {
                readFirst(isle);
            } else if (isWord("path")) {
                readPath(isle);
            } else if (isWord("tree")) {
                readTree(isle);
            } else if (isWord("vine")) {
                readVine(isle);
            } else if (isWord("brook")) {
                nextToken();
                isle.brookBits |= 1 << takePlace(isle);
            } else if (isWord("bearer")) {
                readBearer(isle);
            } else {
                blame(TOKEN_FAULT);
            }
            if (kind == SIGN) {
                nextToken();
            } else {
                blame(TOKEN_FAULT);
            }
        }

        private void readFirst(Isle isle) {
            takeWord("isle");
            takeWord("places");
            isle.places = takeNumber(2, MOST_PLACES, NONE);
            takeWord("hours");
            isle.hours = takeNumber(1, MOST_HOURS, NONE);
            takeWord("weight");
            isle.weight = takeNumber(1, MOST_WEIGHT, NONE);
            takeWord("odds");
            isle.odds = takeNumber(0, MOST_ODDS, NONE);
        }

        private void readPath(Isle isle) {
            blameAbove(isle.paths, MOST_PATHS);
            nextToken();
            int one = takeNumber(0, isle.places - 1, NONE);
            takeWord("to");
            int other = takeNumber(0, isle.places - 1, one);
            if (fault == 0) {
                isle.addPath(one, other);
            }
        }

        private void readTree(Isle isle) {
            blameAbove(isle.trees, MOST_TREES);
            nextToken();
            Cells.put(isle.treePlace, isle.trees, takePlace(isle));
            takeWord("fruit");
            Cells.put(isle.treeFruit, isle.trees, takeNumber(0, MOST_FRUIT, NONE));
            isle.trees++;
        }

        private void readVine(Isle isle) {
            blameAbove(isle.vines, MOST_VINES);
            nextToken();
            Cells.put(isle.vinePlace, isle.vines, takePlace(isle));
            takeWord("ripe");
            Cells.put(isle.vineRipe, isle.vines, takeNumber(0, MOST_HOURS, NONE));
            isle.vines++;
        }

        private void readBearer(Isle isle) {
            blameAbove(isle.bearers, MOST_BEARERS);
            nextToken();
            Cells.put(isle.bearerHome, isle.bearers, takePlace(isle));
            takeWord("strength");
            Cells.put(isle.bearerStrength, isle.bearers, takeNumber(1, MOST_STRENGTH, NONE));
            isle.bearers++;
        }

        private void blameAbove(int have, int most) {
            if (have >= most) {
                blame(COUNT_FAULT);
            }
        }

        /** Tokens come in their order, so the first blame is the first by its place. */
        private void blame(int what) {
            if (fault == 0) {
                fault = what;
                faultPlace = start;
            }
        }

        private int takePlace(Isle isle) {
            takeWord("at");
            return takeNumber(0, isle.places - 1, NONE);
        }

        private void takeWord(String word) {
            if (isWord(word)) {
                nextToken();
            } else {
                blame(TOKEN_FAULT);
            }
        }

        /** The number that stands there, or 0 behind a fault. */
        private int takeNumber(int least, int most, int unlike) {
            if (kind != NUMBER) {
                blame(TOKEN_FAULT);
            }
            int value = tokenValue();
            if (value < least || value > most || value == unlike) {
                blame(NUMBER_FAULT);
            }
            nextToken();
            return fault == 0 ? value : 0;
        }

        private int byteAt(int place) {
            return place >= 0 && place < size && place < bytes.length ? bytes[place] : NONE;
        }

        /** A fault keeps the reader at its token. */
        private void nextToken() {
            if (fault != 0) {
                return;
            }
            start = stop;
            while (start < size && kindOf(byteAt(start)) == END) {
                start++;
            }
            kind = kindOf(byteAt(start));
            stop = start;
            boolean runs = kind == WORD || kind == NUMBER;
            while (stop < size && kindOf(byteAt(stop)) == kind && (runs || stop == start)) {
                stop++;
            }
        }

        /** Blanks and the end are of one kind: neither is a token. */
        private static int kindOf(int sign) {
            if (sign == NONE || sign == 32 || sign == 10) {
                return END;
            }
            if (sign >= 'a' && sign <= 'z') {
                return WORD;
            }
            if (sign >= '0' && sign <= '9') {
                return NUMBER;
            }
            return sign == ';' ? SIGN : STRANGE;
        }

        private boolean isWord(String word) {
            if (kind != WORD || stop - start != word.length()) {
                return false;
            }
            for (int i = 0; i < word.length(); i++) {
                if (byteAt(start + i) != word.charAt(i)) {
                    return false;
                }
            }
            return true;
        }

        private int tokenValue() {
            int value = 0;
            for (int i = start; i < stop; i++) {
                value = Math.min(value * 10 + byteAt(i) - '0', HUGE);
            }
            return value;
        }
    }

    /** What the text tells, and the WAYS between its PLACES. */
    private static final class Isle {
        private int lines = 0;
        private int places = 0;
        private int hours = 0;
        private int weight = 0;
        private int odds = 0;
        private int paths = 0;
        private int trees = 0;
        private int vines = 0;
        private int bearers = 0;
        private int brookBits = 0;
        private final int[] treePlace = new int[MOST_TREES];
        private final int[] treeFruit = new int[MOST_TREES];
        private final int[] vinePlace = new int[MOST_VINES];
        private final int[] vineRipe = new int[MOST_VINES];
        private final int[] bearerHome = new int[MOST_BEARERS];
        private final int[] bearerStrength = new int[MOST_BEARERS];
        private final int[] besideBits = new int[MOST_PLACES];
        private final int[] wayLengths = new int[MOST_PLACES * MOST_PLACES];

        private boolean isTold() {
            return lines > 0;
        }

        private void clear() {
            lines = 0;
            places = 0;
            hours = 0;
            weight = 0;
            odds = 0;
            paths = 0;
            trees = 0;
            vines = 0;
            bearers = 0;
            brookBits = 0;
            Cells.fill(besideBits, 0);
        }

        private void copyFrom(Isle other) {
            lines = other.lines;
            places = other.places;
            hours = other.hours;
            weight = other.weight;
            odds = other.odds;
            paths = other.paths;
            trees = other.trees;
            vines = other.vines;
            bearers = other.bearers;
            brookBits = other.brookBits;
            Cells.copy(other.treePlace, treePlace);
            Cells.copy(other.treeFruit, treeFruit);
            Cells.copy(other.vinePlace, vinePlace);
            Cells.copy(other.vineRipe, vineRipe);
            Cells.copy(other.bearerHome, bearerHome);
            Cells.copy(other.bearerStrength, bearerStrength);
            Cells.copy(other.besideBits, besideBits);
            Cells.copy(other.wayLengths, wayLengths);
        }

        private void addPath(int one, int other) {
            Cells.put(besideBits, one, Cells.get(besideBits, one) | 1 << other);
            Cells.put(besideBits, other, Cells.get(besideBits, other) | 1 << one);
            paths++;
        }

        private void measure() {
            Cells.fill(wayLengths, NONE);
            for (int place = 0; place < places; place++) {
                measureFrom(place);
            }
        }

        private void measureFrom(int place) {
            int met = 0;
            int edge = 1 << place;
            for (int length = 0; length < MOST_PLACES; length++) {
                int wider = 0;
                for (int other = 0; other < places; other++) {
                    if (Cells.bit(edge, other)) {
                        Cells.put(wayLengths, place * MOST_PLACES + other, length);
                        wider |= Cells.get(besideBits, other);
                    }
                }
                met |= edge;
                edge = wider & ~met;
            }
        }

        private int homeOf(int bearer) {
            return Cells.get(bearerHome, bearer);
        }

        private int wayBetween(int place, int other) {
            return Cells.get(wayLengths, place * MOST_PLACES + other);
        }

        private int reachBits(int place) {
            int bits = 0;
            for (int other = 0; other < places; other++) {
                if (wayBetween(place, other) != NONE) {
                    bits |= 1 << other;
                }
            }
            return bits;
        }

        /** The TREE to which he STEERS from a PLACE, if so much fruit is left. */
        private int steering(int place, int[] left) {
            int found = NONE;
            int least = MOST_PLACES;
            for (int tree = 0; tree < trees; tree++) {
                int length = wayBetween(place, Cells.get(treePlace, tree));
                if (Cells.get(left, tree) > 0 && length != NONE && length < least) {
                    least = length;
                    found = tree;
                }
            }
            return found;
        }

        /** The least PLACE to which a least WAY to a goal (not the PLACE itself) goes first. */
        private int firstStep(int place, int goal) {
            int beside = Cells.get(besideBits, place);
            int length = wayBetween(place, goal);
            for (int other = 0; other < places; other++) {
                if (Cells.bit(beside, other) && wayBetween(other, goal) == length - 1) {
                    return other;
                }
            }
            return NONE;
        }

        /** The strongest BEARER at home in a PLACE who is not among the fallen. */
        private int strongestAt(int place, int fallenBits) {
            int found = NONE;
            int most = 0;
            for (int bearer = 0; bearer < bearers; bearer++) {
                int strength = Cells.get(bearerStrength, bearer);
                boolean free = !Cells.bit(fallenBits, bearer);
                if (free && Cells.get(bearerHome, bearer) == place && strength > most) {
                    most = strength;
                    found = bearer;
                }
            }
            return found;
        }

        /** A VINE in a PLACE that is ripe in an HOUR and not among the emptied. */
        private int ripeVineAt(int place, int hour, int emptiedBits) {
            for (int vine = 0; vine < vines; vine++) {
                boolean ripe = Cells.get(vineRipe, vine) <= hour;
                boolean full = !Cells.bit(emptiedBits, vine);
                if (ripe && full && Cells.get(vinePlace, vine) == place) {
                    return vine;
                }
            }
            return NONE;
        }
    }

    /** Acts by their HOURS, and in which order they came. */
    private static final class Acts {
        private final int[] codes = new int[MOST_HOURS];
        private final int[] order = new int[MOST_HOURS];
        private int size = 0;

        private int codeIn(int hour) {
            return Cells.get(codes, hour);
        }

        private void add(int hour, int code) {
            Cells.put(codes, hour, code);
            Cells.put(order, size, hour);
            size++;
        }

        private void dropLatest() {
            size--;
            Cells.put(codes, Cells.get(order, size), NO_ACT);
        }

        private void clear() {
            Cells.fill(codes, NO_ACT);
            size = 0;
        }

        private void copyFrom(Acts other) {
            Cells.copy(other.codes, codes);
            Cells.copy(other.order, order);
            size = other.size;
        }
    }

    /** The ride at one moment, and how an HOUR goes on from there. */
    private static final class Ride {
        private static final int BY_DROP = 0;
        private static final int BY_THROW = 1;
        private static final int DRUNK_HOURS = 3;

        private int place = NONE;
        private int bearer = NONE;
        private int weight = 0;
        private int soberHour = 0;
        private int emptiedBits = 0;
        private int fallenBits = 0;
        private int endKind = NONE;
        private boolean actWorked = false;
        private final int[] tiredness = new int[MOST_BEARERS];
        private final int[] fruitLeft = new int[MOST_TREES];

        /** Without BEARERS he is nowhere, on nobody, from the first. */
        private void begin(Isle isle, int onBearer, int start) {
            boolean rides = onBearer < isle.bearers;
            place = rides ? start : NONE;
            bearer = rides ? onBearer : NONE;
            weight = isle.weight;
            soberHour = 0;
            emptiedBits = 0;
            fallenBits = 0;
            endKind = NONE;
            actWorked = false;
            Cells.fill(tiredness, 0);
            Cells.copy(isle.treeFruit, fruitLeft);
        }

        private void copyFrom(Ride other) {
            place = other.place;
            bearer = other.bearer;
            weight = other.weight;
            soberHour = other.soberHour;
            emptiedBits = other.emptiedBits;
            fallenBits = other.fallenBits;
            endKind = other.endKind;
            actWorked = other.actWorked;
            Cells.copy(other.tiredness, tiredness);
            Cells.copy(other.fruitLeft, fruitLeft);
        }

        private boolean isDrunkIn(int hour) {
            return hour < soberHour;
        }

        /** Whether an act can be in an HOUR; none can always be. */
        private boolean allows(Isle isle, int hour, int act) {
            if (act == NO_ACT) {
                return true;
            }
            if (act == OFFER) {
                int vine = isle.ripeVineAt(place, hour, emptiedBits);
                return !isDrunkIn(hour) && vine != NONE;
            }
            if (!isDrunkIn(hour)) {
                return false;
            }
            if (act == THROW) {
                return Cells.bit(isle.brookBits, place);
            }
            return Cells.bit(Cells.get(isle.besideBits, place), act - CARRY);
        }

        /** Lives through an HOUR with an act: what is done in it. */
        private int pass(Isle isle, int hour, int act) {
            actWorked = bearer != NONE && act != NO_ACT && allows(isle, hour, act);
            if (bearer == NONE) {
                return NOTHING;
            }
            // An act that can't be is none.
            int held = actWorked ? act : NO_ACT;
            if (held == THROW) {
                finish(BY_THROW);
                return THROWN;
            }
            if (held >= CARRY) {
                carryTo(isle, held - CARRY);
                return CARRIED;
            }
            if (held == OFFER) {
                emptiedBits |= 1 << isle.ripeVineAt(place, hour, emptiedBits);
                soberHour = hour + DRUNK_HOURS;
            }
            if (isDrunkIn(hour)) {
                return SLEEPS;
            }
            int tree = isle.steering(place, fruitLeft);
            if (tree == NONE) {
                return STAYS;
            }
            int goal = Cells.get(isle.treePlace, tree);
            if (goal == place) {
                eatOf(tree);
                return EATS;
            }
            carryTo(isle, isle.firstStep(place, goal));
            return CARRIED;
        }

        private void eatOf(int tree) {
            Cells.add(fruitLeft, tree, -1);
            weight++;
            Cells.put(tiredness, bearer, Math.max(Cells.get(tiredness, bearer) - 3, 0));
        }

        private void carryTo(Isle isle, int goal) {
            place = goal;
            Cells.add(tiredness, bearer, weight);
            if (Cells.get(tiredness, bearer) > Cells.get(isle.bearerStrength, bearer)) {
                fallenBits |= 1 << bearer;
                bearer = isle.strongestAt(place, fallenBits);
                if (bearer == NONE) {
                    finish(BY_DROP);
                }
            }
        }

        private void finish(int kind) {
            endKind = kind;
            place = NONE;
            bearer = NONE;
        }
    }

    /** A ride told from its first HOUR to its last. */
    private static final class Story {
        private static final int MOMENTS = MOST_HOURS + 1;

        private final Ride ride = new Ride();
        private final int[] places = new int[MOMENTS];
        private final int[] bearers = new int[MOMENTS];
        private final int[] weights = new int[MOMENTS];
        private final int[] tiredness = new int[MOMENTS * MOST_BEARERS];
        private final int[] fruitLeft = new int[MOMENTS * MOST_TREES];
        private final int[] deeds = new int[MOST_HOURS];
        private final int[] drunken = new int[MOST_HOURS];
        private final int[] worked = new int[MOST_HOURS];
        private final int[] carried = new int[MOST_BEARERS];
        private int eaten = 0;
        private int endHour = NONE;
        private int endKind = NONE;
        private int fallenBits = 0;

        private void tell(Isle isle, Acts acts, int onBearer, int start) {
            Cells.fill(carried, 0);
            eaten = 0;
            endHour = NONE;
            ride.begin(isle, onBearer, start);
            note(0);
            for (int hour = 0; hour < isle.hours; hour++) {
                int bearer = ride.bearer;
                int deed = ride.pass(isle, hour, acts.codeIn(hour));
                noteDeed(hour, deed, bearer);
                note(hour + 1);
            }
            endKind = ride.endKind;
            fallenBits = ride.fallenBits;
        }

        private void noteDeed(int hour, int deed, int bearer) {
            Cells.put(deeds, hour, deed);
            Cells.put(drunken, hour, ride.isDrunkIn(hour) ? 1 : 0);
            Cells.put(worked, hour, ride.actWorked ? 1 : 0);
            if (deed == CARRIED) {
                Cells.add(carried, bearer, 1);
            }
            if (deed == EATS) {
                eaten++;
            }
            if (bearer != NONE && ride.bearer == NONE) {
                endHour = hour;
            }
        }

        private void note(int hour) {
            Cells.put(places, hour, ride.place);
            Cells.put(bearers, hour, ride.bearer);
            Cells.put(weights, hour, ride.weight);
            for (int bearer = 0; bearer < MOST_BEARERS; bearer++) {
                int tired = Cells.get(ride.tiredness, bearer);
                Cells.put(tiredness, hour * MOST_BEARERS + bearer, tired);
            }
            for (int tree = 0; tree < MOST_TREES; tree++) {
                int left = Cells.get(ride.fruitLeft, tree);
                Cells.put(fruitLeft, hour * MOST_TREES + tree, left);
            }
        }

        private int tiredOf(int bearer, int hour) {
            return Cells.get(tiredness, hour * MOST_BEARERS + bearer);
        }

        private int fruitOf(int tree, int hour) {
            return Cells.get(fruitLeft, hour * MOST_TREES + tree);
        }
    }

    /** The search for the soonest HOUR in which he can be thrown. */
    private static final class Hunt {
        private final Ride[] rides = new Ride[MOST_HOURS + 1];
        private final int[] triedRow = new int[MOST_HOURS];
        private final int[] firstRow = new int[MOST_HOURS];
        private final int[] brookWay = new int[MOST_PLACES];
        private int hour = NONE;
        private int rows = 0;
        /** The last HOUR in which a throw is still of use. */
        private int limit = NONE;

        private Hunt() {
            for (int i = 0; i < rides.length; i++) {
                rides[i] = new Ride();
            }
        }

        private void search(Isle isle) {
            hour = NONE;
            rows = 0;
            limit = Math.min(isle.hours, MOST_HOURS) - 1;
            for (int place = 0; place < isle.places; place++) {
                Cells.put(brookWay, place, wayToBrook(isle, place));
            }
            if (rides.length > 0) {
                rides[0].begin(isle, 0, isle.homeOf(0));
                seek(isle, 0);
            }
        }

        private static int wayToBrook(Isle isle, int place) {
            int least = MOST_PLACES;
            for (int other = 0; other < isle.places; other++) {
                int length = isle.wayBetween(place, other);
                if (Cells.bit(isle.brookBits, other) && length != NONE) {
                    least = Math.min(least, length);
                }
            }
            return least;
        }

        /** Acts are tried as rows are ordered, so the first row found is the least. */
        private void seek(Isle isle, int now) {
            if (now > limit || now < 0 || now + 1 >= rides.length) {
                return;
            }
            Ride here = rides[now];
            Ride next = rides[now + 1];
            if (here.bearer == NONE || soonestThrow(isle, here, now) > limit) {
                return;
            }
            for (int act = NO_ACT; act < CARRY + isle.places; act++) {
                if (here.allows(isle, now, act)) {
                    next.copyFrom(here);
                    Cells.put(triedRow, now, act);
                    if (next.pass(isle, now, act) == THROWN) {
                        found(now);
                    } else {
                        seek(isle, now + 1);
                    }
                }
            }
        }

        private void found(int now) {
            if (hour == NONE || now < hour) {
                hour = now;
                limit = now;
                rows = 0;
                for (int i = 0; i < MOST_HOURS; i++) {
                    Cells.put(firstRow, i, i <= now ? Cells.get(triedRow, i) : NO_ACT);
                }
            }
            rows++;
        }

        /** No throw comes sooner: in an HOUR he comes one PATH on at most. */
        private int soonestThrow(Isle isle, Ride here, int now) {
            int soonest = MOST_HOURS;
            int toBrook = now + Cells.get(brookWay, here.place);
            if (toBrook < here.soberHour) {
                soonest = toBrook;
            }
            int sober = Math.max(now, here.soberHour);
            for (int vine = 0; vine < isle.vines; vine++) {
                int place = Cells.get(isle.vinePlace, vine);
                int length = isle.wayBetween(here.place, place);
                int brook = 1 + Cells.get(brookWay, place);
                boolean full = !Cells.bit(here.emptiedBits, vine);
                if (full && length != NONE && brook < Ride.DRUNK_HOURS) {
                    int ripe = Cells.get(isle.vineRipe, vine);
                    int drinks = Math.max(Math.max(now + length, ripe), sober);
                    soonest = Math.min(soonest, drinks + brook);
                }
            }
            return soonest;
        }
    }

    /** A SLOT: a row of numbers of one WIDTH, or nothing. */
    private static final class Slot {
        private final long[] numbers = new long[MOST_NUMBERS];
        private int width = 0;
        private int size = NONE;

        private void renew(int newWidth, int newSize) {
            width = newWidth;
            size = newSize;
            for (int i = 0; i < numbers.length; i++) {
                numbers[i] = 0;
            }
        }

        private long number(int i) {
            return i >= 0 && i < numbers.length ? numbers[i] : 0;
        }

        private void set(int i, long value) {
            if (i >= 0 && i < numbers.length) {
                numbers[i] = cut(value);
            }
        }

        private long cut(long value) {
            switch (width) {
                case 0: return (byte) value;
                case 1: return (short) value;
                case 2: return (int) value;
                default: return value;
            }
        }

        /** Whether n numbers from a place on stand in the row. */
        private boolean spans(int place, int n) {
            return place >= 0 && n >= 0 && place <= size - n;
        }
    }

    /** The pairs of an HOUR and a PLACE that fit a SLOT's row. */
    private static final class Seen {
        private static final int AMOUNTS = MOST_FRUIT + 1;

        private int pairs = 0;
        private int hourBits = 0;
        private int placeBits = 0;
        /** By TREES, how many of the pairs leave so much on it. */
        private final int[] tally = new int[MOST_TREES * AMOUNTS];

        private boolean isSound(Isle isle, Slot slot) {
            for (int i = 0; i < slot.size; i++) {
                int bound = (i & 1) == 0 ? isle.trees : AMOUNTS;
                if (slot.number(i) < 0 || slot.number(i) >= bound) {
                    return false;
                }
            }
            return (slot.size & 1) == 0;
        }

        private void clear() {
            pairs = 0;
            hourBits = 0;
            placeBits = 0;
            Cells.fill(tally, 0);
        }

        private void gather(Isle isle, Slot slot, Story story, int place) {
            for (int hour = 0; hour <= isle.hours; hour++) {
                if (fitsIn(slot, story, hour)) {
                    pairs++;
                    hourBits |= 1 << hour;
                    placeBits |= 1 << place;
                    for (int tree = 0; tree < isle.trees; tree++) {
                        Cells.add(tally, tree * AMOUNTS + story.fruitOf(tree, hour), 1);
                    }
                }
            }
        }

        private static boolean fitsIn(Slot slot, Story story, int hour) {
            for (int i = 0; i + 1 < slot.size; i += 2) {
                if (story.fruitOf((int) slot.number(i), hour) != slot.number(i + 1)) {
                    return false;
                }
            }
            return true;
        }

        /** How many pairs are left at worst, once it is known what is left on a TREE. */
        private int mostAlike(int tree) {
            int most = 0;
            for (int amount = 0; amount < AMOUNTS; amount++) {
                most = Math.max(most, Cells.get(tally, tree * AMOUNTS + amount));
            }
            return most;
        }

        private int bestTree(int trees) {
            int found = NONE;
            int fewest = pairs;
            for (int tree = 0; tree < trees; tree++) {
                int most = mostAlike(tree);
                if (most < fewest) {
                    fewest = most;
                    found = tree;
                }
            }
            return found;
        }
    }

    /** Sums that no isle is needed for. */
    private static final class Sums {
        /** One side of a fraction in lowest terms: above (0), below (1). */
        private static long lowest(long above, long below, int what) {
            long one = above;
            long other = below;
            // A hundred steps reach far beyond what numbers of 63 bits need.
            for (int step = 0; step < 100 && other != 0; step++) {
                long rest = one % other;
                one = other;
                other = rest;
            }
            long side = what == 0 ? above : below;
            return one == 0 ? side : side / one;
        }

        private static long power(long base, int times) {
            long product = 1;
            for (int i = 0; i < times; i++) {
                product *= base;
            }
            return product;
        }

        /** Tenths of men who ask to be carried: all r riders, p tenths of the others. */
        private static int askers(int n, int r, int p) {
            return 10 * r + (n - r) * p;
        }

        private static int restBits(int worth, int burden) {
            int half = burden / 2;
            boolean eatsWell = worth >= 1;
            boolean sleepsWell = 1 >= worth;
            int bits = 0;
            // Eating pays 0 beside one who lies, sleeping 1: 'eats, lies' is never at rest.
            if (eatsWell && -burden >= -2) {
                bits |= 1;
            }
            if (sleepsWell && -half >= -1) {
                bits |= 4;
            }
            if (-1 >= -half) {
                bits |= 8;
            }
            return bits;
        }
    }

    /** A DAY drawn from a seed. */
    private static final class Day {
        private int endHour = NONE;
        private int choked = 0;
        private int draws = 0;

        private void pass(Isle isle, Story story, int seed) {
            long x = seed;
            endHour = story.endHour;
            choked = 0;
            draws = 0;
            for (int hour = 0; hour < isle.hours && choked == 0; hour++) {
                if (Cells.get(story.deeds, hour) == EATS) {
                    x = (1103515245L * x + 12345L) & 2147483647L;
                    draws++;
                    if (x / 65536 % 10 < isle.odds) {
                        choked = 1;
                        endHour = hour;
                    }
                }
            }
        }
    }
}
