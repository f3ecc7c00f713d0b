/**
 * An inn whose keeper pays the king by what is left in glasses.
 * README.md tells how to use it; every answer below 0 but a FRACTION's or THE SEED's is a refusal or NONE.
 */
public final class GlassTax {
    public static final int UNKNOWN = -1, OUTSIDE = -2, STATE = -3, FULL = -4, NONE = -9;

    private static final int MOST_LETTERS = 60, MOST_GLASSES = 5, MOST_DRINKERS = 4;
    private static final int MOST_ACTS = 14, MOST_SEEN = 6, SLOTS = 2;
    private static final int MOST_FIGURE = 9, MOST_DOINGS = 4, MOST_TAXES = 60, MOST_NIGHTS = 30;
    private static final int ALL_DRINKERS = (1 << MOST_DRINKERS) - 1;

    private static final int CRACKED = 1, FOAMING = 2, THIMBLE = 3, LAST_KIND = 3;
    private static final int POLITE = 1, RICH = 2, GHOST = 3;
    private static final int FLAT_AGE = 3, OLDEST_AGE = 9;

    private final Letters letters;
    private final Reader reader;
    private final House draft;
    private final House house;
    private final Table now;
    private final Table before;
    private final Table trial;
    private final Acts acts;
    private final Shelf slots;
    private int slotsKept;
    private final Seen seen;
    private final Search search;
    private final Chances chances;
    private final Pair pair;
    private long seedNow;

    public GlassTax() {
        letters = new Letters();
        reader = new Reader();
        draft = new House();
        house = new House();
        now = new Table(house);
        before = new Table(house);
        trial = new Table(house);
        acts = new Acts();
        slots = new Shelf(SLOTS);
        seen = new Seen();
        search = new Search(house, now, trial);
        chances = new Chances(house, now, trial);
        pair = new Pair(house, now);
    }

    // ---- the inn

    public int write(int letter) {
        if (letter < 0 || letter > 255) {
            return OUTSIDE;
        }
        return letters.add(letter);
    }

    public int wipe() {
        int length = letters.length;
        letters.length = 0;
        return length;
    }

    public int fault() {
        return reader.read(letters, draft);
    }

    public int inn() {
        if (reader.read(letters, draft) != NONE) {
            return STATE;
        }
        house.copyFrom(draft);
        now.openAnew();
        acts.forgetAll();
        slotsKept = 0;
        return 10 * house.glasses + house.drinkers;
    }

    public int glass(int glass, int what) {
        if (!house.hasGlass(glass)) {
            return UNKNOWN;
        }
        switch (what) {
            case 0: return house.measures[glass];
            case 1: return now.contents[glass];
            case 2: return house.glassKinds[glass];
            case 3: return now.ages[glass];
            case 4: return now.taxOf(glass);
            case 5: return house.sittersAt(glass);
            default: return OUTSIDE;
        }
    }

    public int drinker(int drinker, int what) {
        if (!house.hasDrinker(drinker)) {
            return UNKNOWN;
        }
        switch (what) {
            case 0: return now.thirsts[drinker];
            case 1: return house.drinkerKinds[drinker];
            case 2: return house.seats[drinker];
            case 3: return now.firstGulp(drinker);
            default: return OUTSIDE;
        }
    }

    // ---- acts

    public int pour(int glass, int n) {
        before.copyFrom(now);
        return acted(now.pourInto(glass, n));
    }

    public int drink(int drinker, int glass) {
        before.copyFrom(now);
        return acted(now.drinkAt(drinker, glass));
    }

    public int tip(int glass, int other) {
        before.copyFrom(now);
        return acted(now.tipOver(glass, other));
    }

    public int hour() {
        before.copyFrom(now);
        return acted(now.passHour());
    }

    /** What was refused is no act, so there is nothing of it to undo. */
    private int acted(int answer) {
        if (answer >= 0) {
            acts.push(before);
        }
        return answer;
    }

    public int undo() {
        if (acts.size == 0) {
            return STATE;
        }
        acts.pop(now);
        return acts.size;
    }

    // ---- evenings

    public int left(int glass) {
        if (!house.hasGlass(glass)) {
            return UNKNOWN;
        }
        trial.copyFrom(now);
        trial.passEvening(ALL_DRINKERS);
        return trial.contents[glass];
    }

    public int evening(int what) {
        if (what < 0 || what > 1) {
            return OUTSIDE;
        }
        trial.copyFrom(now);
        trial.passEvening(ALL_DRINKERS);
        return what == 0 ? trial.taxes() : trial.thirstOfAll();
    }

    public int pouring(int n, boolean way) {
        if (n < 0 || n > MOST_FIGURE) {
            return OUTSIDE;
        }
        search.startAnew();
        search.tryPours(0, n, 0);
        return way ? search.found : search.least;
    }

    public int wake() {
        return search.fewestForWake();
    }

    public int order(boolean order) {
        search.startAnew();
        search.tryTurns(0, 0, 0);
        return order ? search.found : search.least;
    }

    public int hall(int n) {
        if (n < 0 || n > MOST_FIGURE) {
            return OUTSIDE;
        }
        trial.copyFrom(now);
        for (int i = 0; i < n; i++) {
            trial.passHour();
        }
        return trial.taxes();
    }

    public int judge(int n, long row) {
        if (n < 1 || n > MOST_DOINGS) {
            return OUTSIDE;
        }
        long unit = 1;
        for (int i = 0; i < n; i++) {
            unit *= 1000;
        }
        if (row < 0 || row >= unit) {
            return OUTSIDE;
        }
        trial.copyFrom(now);
        for (int place = 0; place < n; place++) {
            unit = Math.max(1, unit / 1000);
            if (trial.told((int) (row / unit % 1000)) < 0) {
                return place;
            }
        }
        return NONE;
    }

    // ---- seen

    public int see(int drinker, int was, int is) {
        if (!house.hasDrinker(drinker)) {
            return UNKNOWN;
        }
        if (was < 0 || was > MOST_FIGURE || is < 0 || is > was) {
            return OUTSIDE;
        }
        return seen.add(drinker, was, is);
    }

    public int unsee() {
        int size = seen.size;
        seen.size = 0;
        return size;
    }

    public int thirsts(int drinker) {
        if (!house.hasDrinker(drinker)) {
            return UNKNOWN;
        }
        return seen.thirstsOf(drinker, house.drinkerKinds[drinker]);
    }

    // ---- shares, rests, chances

    public int share(int drinker, boolean upper) {
        if (!house.hasDrinker(drinker)) {
            return UNKNOWN;
        }
        return chances.shareOf(drinker, upper);
    }

    public int rests(int one, int other, int what) {
        if (!house.hasDrinker(one) || !house.hasDrinker(other)) {
            return UNKNOWN;
        }
        if (one == other || what < 0 || what > 1) {
            return OUTSIDE;
        }
        pair.findRests(one, other);
        if (pair.found == 0) {
            return NONE;
        }
        return what == 0 ? pair.found : pair.first;
    }

    public int leak(int m, int x, boolean upper) {
        if (m < 0 || m > MOST_TAXES || x < 0 || x > 10) {
            return OUTSIDE;
        }
        return chances.leakOf(m, x, upper);
    }

    public long seed(long v) {
        long was = seedNow;
        seedNow = v;
        return was;
    }

    public int nights(int m) {
        if (m < 1 || m > MOST_NIGHTS) {
            return OUTSIDE;
        }
        trial.copyFrom(now);
        int sum = 0;
        for (int i = 0; i < m; i++) {
            seedNow = seedNow * 6364136223846793005L + 1442695040888963407L;
            trial.passChance((int) ((seedNow >>> 33) % 24));
            sum += trial.taxes();
        }
        return sum;
    }

    // ---- slots

    public int keep(int slot) {
        if (slot < 0 || slot >= SLOTS) {
            return UNKNOWN;
        }
        slots.lay(slot, now);
        slotsKept |= 1 << slot;
        return now.hours;
    }

    public int again(int slot) {
        if (slot < 0 || slot >= SLOTS) {
            return UNKNOWN;
        }
        if (!hasBit(slotsKept, slot)) {
            return STATE;
        }
        slots.fetch(slot, now);
        acts.forgetAll();
        return now.hours;
    }

    public int count(int what) {
        switch (what) {
            case 0: return letters.length;
            case 1: return house.glasses;
            case 2: return house.drinkers;
            case 3: return now.taxes();
            case 4: return now.thirstOfAll();
            case 5: return now.hours;
            case 6: return acts.size;
            case 7: return seen.size;
            default: return OUTSIDE;
        }
    }

    private static boolean hasBit(int bits, int place) {
        return (bits >> place & 1) != 0;
    }

    /** How much a drinker of this kind and thirst drinks of a glass with so much in it. */
    private static int gulp(int kind, int thirst, int content) {
        int may = content;
        if (kind == POLITE) {
            may = content > 0 ? content - 1 : 0;
        } else if (kind == RICH) {
            may = content / 2;
        } else if (kind == GHOST) {
            may = 0;
        }
        return thirst < may ? thirst : may;
    }

    /** One side of a fraction in least terms; lower is 1 or more. */
    private static int fractionSide(int upper, int lower, boolean wantUpper) {
        int divisor = commonDivisor(Math.abs(upper), lower);
        return (wantUpper ? upper : lower) / divisor;
    }

    private static int commonDivisor(int a, int b) {
        int big = a;
        int small = b;
        // Euclid's way on ints ends in far fewer than 64 steps
        for (int step = 0; step < 64 && small != 0; step++) {
            int rest = big % small;
            big = small;
            small = rest;
        }
        return Math.max(1, big);
    }

    /** THE TEXT. */
    private static final class Letters {
        private final int[] signs = new int[MOST_LETTERS];
        private int length;

        int add(int letter) {
            if (length >= MOST_LETTERS) {
                return FULL;
            }
            signs[length] = letter;
            length++;
            return length;
        }
    }

    /** What a text tells of an inn; it stays as it is until the inn is made anew. Who is not there has noughts. */
    private static final class House {
        private int glasses;
        private int drinkers;
        private final int[] measures = new int[MOST_GLASSES];
        private final int[] poured = new int[MOST_GLASSES];
        private final int[] glassKinds = new int[MOST_GLASSES];
        private final int[] thirstsAtFirst = new int[MOST_DRINKERS];
        private final int[] drinkerKinds = new int[MOST_DRINKERS];
        private final int[] seats = new int[MOST_DRINKERS];

        void clear() {
            glasses = 0;
            drinkers = 0;
            for (int g = 0; g < MOST_GLASSES; g++) {
                measures[g] = 0;
                poured[g] = 0;
                glassKinds[g] = 0;
            }
            for (int d = 0; d < MOST_DRINKERS; d++) {
                thirstsAtFirst[d] = 0;
                drinkerKinds[d] = 0;
                seats[d] = 0;
            }
        }

        void copyFrom(House other) {
            glasses = other.glasses;
            drinkers = other.drinkers;
            System.arraycopy(other.measures, 0, measures, 0, MOST_GLASSES);
            System.arraycopy(other.poured, 0, poured, 0, MOST_GLASSES);
            System.arraycopy(other.glassKinds, 0, glassKinds, 0, MOST_GLASSES);
            System.arraycopy(other.thirstsAtFirst, 0, thirstsAtFirst, 0, MOST_DRINKERS);
            System.arraycopy(other.drinkerKinds, 0, drinkerKinds, 0, MOST_DRINKERS);
            System.arraycopy(other.seats, 0, seats, 0, MOST_DRINKERS);
        }

        void addGlass(int measure, int content, int kind) {
            if (glasses < MOST_GLASSES) {
                measures[glasses] = measure;
                poured[glasses] = content;
                glassKinds[glasses] = kind;
                glasses++;
            }
        }

        void addDrinker(int thirst, int kind) {
            if (drinkers < MOST_DRINKERS) {
                thirstsAtFirst[drinkers] = thirst;
                drinkerKinds[drinkers] = kind;
                drinkers++;
            }
        }

        boolean hasGlass(int glass) {
            return glass >= 0 && glass < glasses;
        }

        boolean hasDrinker(int drinker) {
            return drinker >= 0 && drinker < drinkers;
        }

        boolean sits(int drinker, int glass) {
            return hasDrinker(drinker) && hasGlass(glass) && hasBit(seats[drinker], glass);
        }

        /** Whether there is a glass at which this drinker does not sit yet. */
        boolean canSit(int drinker) {
            return hasDrinker(drinker) && seats[drinker] != (1 << glasses) - 1;
        }

        boolean anyCanSit() {
            for (int d = 0; d < drinkers; d++) {
                if (canSit(d)) {
                    return true;
                }
            }
            return false;
        }

        int sittersAt(int glass) {
            int bits = 0;
            for (int d = 0; d < drinkers; d++) {
                if (sits(d, glass)) {
                    bits |= 1 << d;
                }
            }
            return bits;
        }
    }

    /** Reads a text into a house and takes only letters behind which an inn can still come about. */
    private static final class Reader {
        private static final int GATE = 0, PART = 1, MEASURE = 2, CONTENT = 3, GLASS_KIND = 4;
        private static final int THIRST = 5, DRINKER_KIND = 6, SITTER = 7, SEAT = 8;

        private int awaits;
        private int first;
        private int second;

        /** The place of the first fault; NONE. */
        int read(Letters letters, House house) {
            house.clear();
            awaits = GATE;
            for (int i = 0; i < letters.length && i < MOST_LETTERS; i++) {
                if (!takes(letters.signs[i], house)) {
                    return i;
                }
            }
            return awaits == PART ? NONE : letters.length;
        }

        private boolean takes(int letter, House house) {
            if (awaits == GATE) {
                awaits = PART;
                return letter == 'G';
            }
            if (awaits == PART) {
                return takesPart(letter, house);
            }
            return letter >= '0' && letter <= '9' && takesFigure(letter - '0', house);
        }

        private boolean takesPart(int letter, House house) {
            switch (letter) {
                case 'V':
                    awaits = MEASURE;
                    return house.glasses < MOST_GLASSES;
                case 'D':
                    awaits = THIRST;
                    return house.drinkers < MOST_DRINKERS;
                case 'S':
                    awaits = SITTER;
                    return house.anyCanSit();
                default:
                    return false;
            }
        }

        private boolean takesFigure(int figure, House house) {
            switch (awaits) {
                case MEASURE:
                    first = figure;
                    awaits = CONTENT;
                    return figure >= 1;
                case CONTENT:
                    second = figure;
                    awaits = GLASS_KIND;
                    return figure <= first;
                case THIRST:
                    first = figure;
                    awaits = DRINKER_KIND;
                    return true;
                case SITTER:
                    first = figure;
                    awaits = SEAT;
                    return house.canSit(figure);
                default:
                    return endsPart(figure, house);
            }
        }

        private boolean endsPart(int figure, House house) {
            int ending = awaits;
            awaits = PART;
            if (ending == SEAT) {
                return takesSeat(figure, house);
            }
            if (figure > LAST_KIND) {
                return false;
            }
            if (ending == GLASS_KIND) {
                house.addGlass(first, second, figure);
            } else {
                house.addDrinker(first, figure);
            }
            return true;
        }

        private boolean takesSeat(int glass, House house) {
            if (!house.hasDrinker(first) || !house.hasGlass(glass) || hasBit(house.seats[first], glass)) {
                return false;
            }
            house.seats[first] |= 1 << glass;
            return true;
        }
    }

    /** What changes in an inn: what is in glasses, their ages, thirsts and the hour. */
    private static final class Table {
        private final House house;
        private final int[] contents = new int[MOST_GLASSES];
        private final int[] ages = new int[MOST_GLASSES];
        private final int[] thirsts = new int[MOST_DRINKERS];
        private int hours;

        Table(House house) {
            this.house = house;
        }

        void copyFrom(Table other) {
            System.arraycopy(other.contents, 0, contents, 0, MOST_GLASSES);
            System.arraycopy(other.ages, 0, ages, 0, MOST_GLASSES);
            System.arraycopy(other.thirsts, 0, thirsts, 0, MOST_DRINKERS);
            hours = other.hours;
        }

        void openAnew() {
            for (int g = 0; g < MOST_GLASSES; g++) {
                contents[g] = house.poured[g];
                ages[g] = 0;
            }
            for (int d = 0; d < MOST_DRINKERS; d++) {
                thirsts[d] = house.thirstsAtFirst[d];
            }
            hours = 0;
        }

        int taxOf(int glass) {
            int content = contents[glass];
            int tax = ages[glass] >= FLAT_AGE ? 0 : content;
            if (house.glassKinds[glass] == THIMBLE) {
                tax = Math.max(0, tax - 2);
            }
            boolean fullByHalf = 2 * content >= house.measures[glass];
            return tax > 0 && fullByHalf ? tax + 2 : tax;
        }

        int taxes() {
            int sum = 0;
            for (int g = 0; g < MOST_GLASSES; g++) {
                sum += taxOf(g);
            }
            return sum;
        }

        int thirstOfAll() {
            int sum = 0;
            for (int d = 0; d < MOST_DRINKERS; d++) {
                sum += thirsts[d];
            }
            return sum;
        }

        int roomIn(int glass) {
            return house.measures[glass] - contents[glass];
        }

        int firstGulp(int drinker) {
            for (int g = 0; g < MOST_GLASSES; g++) {
                if (house.sits(drinker, g)) {
                    return gulp(house.drinkerKinds[drinker], thirsts[drinker], contents[g]);
                }
            }
            return 0;
        }

        /** The four acts answer as their calls do, and a refused one changes nothing. */
        int pourInto(int glass, int n) {
            if (!house.hasGlass(glass)) {
                return UNKNOWN;
            }
            if (n < 1 || n > MOST_FIGURE) {
                return OUTSIDE;
            }
            int went = Math.min(n, roomIn(glass));
            if (went <= 0) {
                return STATE;
            }
            contents[glass] += went;
            ages[glass] = 0;
            return went;
        }

        int drinkAt(int drinker, int glass) {
            if (!house.hasDrinker(drinker) || !house.hasGlass(glass)) {
                return UNKNOWN;
            }
            return house.sits(drinker, glass) ? swallow(drinker, glass) : STATE;
        }

        int tipOver(int glass, int other) {
            if (!house.hasGlass(glass) || !house.hasGlass(other)) {
                return UNKNOWN;
            }
            if (glass == other) {
                return OUTSIDE;
            }
            int went = Math.min(contents[glass], roomIn(other));
            if (went <= 0) {
                return STATE;
            }
            contents[glass] -= went;
            contents[other] += went;
            ages[other] = Math.max(ages[glass], ages[other]);
            return went;
        }

        int passHour() {
            for (int g = 0; g < MOST_GLASSES; g++) {
                if (contents[g] > 0) {
                    ageByHour(g);
                }
            }
            hours++;
            return taxes();
        }

        private void ageByHour(int glass) {
            ages[glass] = Math.min(OLDEST_AGE, ages[glass] + 1);
            if (house.glassKinds[glass] == CRACKED) {
                contents[glass]--;
            } else if (house.glassKinds[glass] == FOAMING && ages[glass] == 1) {
                contents[glass] -= contents[glass] / 4;
            }
        }

        /** A doing of three figures; below 0: it can not be. */
        int told(int doing) {
            int one = doing / 10 % 10;
            int other = doing % 10;
            switch (doing / 100) {
                case 0: return pourInto(one, other);
                case 1: return drinkAt(one, other);
                case 2: return tipOver(one, other);
                case 3: return one == 0 && other == 0 ? passHour() : OUTSIDE;
                default: return OUTSIDE;
            }
        }

        /** One step of a night, by a number from 0 to 23. */
        void passChance(int lot) {
            if (lot >= MOST_DRINKERS * MOST_GLASSES) {
                passHour();
            } else {
                drinkAt(lot / MOST_GLASSES, lot % MOST_GLASSES);
            }
        }

        void passEvening(int comers) {
            for (int d = 0; d < MOST_DRINKERS; d++) {
                if (hasBit(comers, d)) {
                    drinkAround(d);
                }
            }
        }

        void drinkAround(int drinker) {
            int seats = house.seats[drinker];
            for (int g = 0; g < MOST_GLASSES; g++) {
                if (hasBit(seats, g)) {
                    swallow(drinker, g);
                }
            }
        }

        private int swallow(int drinker, int glass) {
            int n = gulp(house.drinkerKinds[drinker], thirsts[drinker], contents[glass]);
            contents[glass] -= n;
            thirsts[drinker] -= n;
            return n;
        }

        void fillOnly(int bits) {
            for (int g = 0; g < MOST_GLASSES; g++) {
                contents[g] = hasBit(bits, g) ? house.measures[g] : 0;
                ages[g] = 0;
            }
        }

        /** Ghosts never drink, so their thirst is not waited for. */
        boolean isQuenched() {
            for (int d = 0; d < MOST_DRINKERS; d++) {
                if (thirsts[d] > 0 && house.drinkerKinds[d] != GHOST) {
                    return false;
                }
            }
            return true;
        }
    }

    /** Places for tables, laid out in one row so that keeping one makes no object. */
    private static final class Shelf {
        private static final int WIDTH = 2 * MOST_GLASSES + MOST_DRINKERS + 1;

        private final int places;
        private final int[] cells;

        Shelf(int places) {
            this.places = Math.max(0, places);
            cells = new int[this.places * WIDTH];
        }

        void lay(int place, Table table) {
            if (place < 0 || place >= places) {
                return;
            }
            int at = place * WIDTH;
            System.arraycopy(table.contents, 0, cells, at, MOST_GLASSES);
            System.arraycopy(table.ages, 0, cells, at + MOST_GLASSES, MOST_GLASSES);
            System.arraycopy(table.thirsts, 0, cells, at + 2 * MOST_GLASSES, MOST_DRINKERS);
            cells[at + WIDTH - 1] = table.hours;
        }

        void fetch(int place, Table table) {
            if (place < 0 || place >= places) {
                return;
            }
            int at = place * WIDTH;
            System.arraycopy(cells, at, table.contents, 0, MOST_GLASSES);
            System.arraycopy(cells, at + MOST_GLASSES, table.ages, 0, MOST_GLASSES);
            System.arraycopy(cells, at + 2 * MOST_GLASSES, table.thirsts, 0, MOST_DRINKERS);
            table.hours = cells[at + WIDTH - 1];
        }
    }

    /** THE ROW of ACTS: of each the table ahead of it, in a ring, so that the first is forgotten by itself. */
    private static final class Acts {
        private final Shelf ring = new Shelf(MOST_ACTS);
        private int next;
        private int size;

        void push(Table table) {
            ring.lay(next, table);
            next = (next + 1) % MOST_ACTS;
            size = Math.min(MOST_ACTS, size + 1);
        }

        void pop(Table table) {
            if (size > 0) {
                size--;
                next = (next + MOST_ACTS - 1) % MOST_ACTS;
                ring.fetch(next, table);
            }
        }

        void forgetAll() {
            size = 0;
        }
    }

    /** What was seen of drinkers. */
    private static final class Seen {
        private final int[] drinkers = new int[MOST_SEEN];
        private final int[] ahead = new int[MOST_SEEN];
        private final int[] behind = new int[MOST_SEEN];
        private int size;

        int add(int drinker, int was, int is) {
            if (size >= MOST_SEEN) {
                return FULL;
            }
            drinkers[size] = drinker;
            ahead[size] = was;
            behind[size] = is;
            size++;
            return size;
        }

        int thirstsOf(int drinker, int kind) {
            int bits = 0;
            for (int thirst = 0; thirst <= MOST_FIGURE; thirst++) {
                if (fits(drinker, kind, thirst)) {
                    bits |= 1 << thirst;
                }
            }
            return bits;
        }

        private boolean fits(int drinker, int kind, int thirst) {
            for (int i = 0; i < size && i < MOST_SEEN; i++) {
                if (drinkers[i] == drinker && ahead[i] - gulp(kind, thirst, ahead[i]) != behind[i]) {
                    return false;
                }
            }
            return true;
        }
    }

    /** Looks for the best of many evenings: ways to pour, glasses for a wake, orders of drinkers. */
    private static final class Search {
        private final House house;
        private final Table now;
        private final Table trial;
        private final int[] pours = new int[MOST_GLASSES];
        private final int[] turns = new int[MOST_DRINKERS];
        private int least;
        private int found;

        Search(House house, Table now, Table trial) {
            this.house = house;
            this.now = now;
            this.trial = trial;
        }

        /** NONE stays in both, if nothing is found. */
        void startAnew() {
            least = NONE;
            found = NONE;
        }

        /** Ways come by their numbers, so the first of like ones is the least. */
        void tryPours(int glass, int rest, int way) {
            if (!house.hasGlass(glass)) {
                if (rest == 0) {
                    weighPours(way);
                }
                return;
            }
            int fewest = Math.max(0, rest - roomBehind(glass));
            int most = Math.min(rest, now.roomIn(glass));
            for (int n = fewest; n <= most; n++) {
                pours[glass] = n;
                tryPours(glass + 1, rest - n, 10 * way + n);
            }
        }

        private int roomBehind(int glass) {
            int room = 0;
            for (int g = glass + 1; g < house.glasses; g++) {
                room += now.roomIn(g);
            }
            return room;
        }

        private void weighPours(int way) {
            trial.copyFrom(now);
            for (int g = 0; g < house.glasses; g++) {
                if (pours[g] > 0) {
                    trial.pourInto(g, pours[g]);
                }
            }
            trial.passEvening(ALL_DRINKERS);
            keepLess(trial.taxes(), way);
        }

        private void keepLess(int weight, int name) {
            if (found == NONE || weight < least) {
                least = weight;
                found = name;
            }
        }

        int fewestForWake() {
            int best = NONE;
            for (int bits = 0; bits < 1 << house.glasses; bits++) {
                boolean fewer = best == NONE || Integer.bitCount(bits) < Integer.bitCount(best);
                if (fewer && isEnough(bits)) {
                    best = bits;
                }
            }
            return best;
        }

        private boolean isEnough(int bits) {
            trial.copyFrom(now);
            trial.fillOnly(bits);
            trial.passEvening(ALL_DRINKERS);
            return trial.isQuenched();
        }

        /** Orders come by their numbers, too. */
        void tryTurns(int place, int come, int name) {
            if (place >= house.drinkers) {
                weighTurns(name);
                return;
            }
            for (int d = 0; d < house.drinkers; d++) {
                if (!hasBit(come, d)) {
                    turns[place] = d;
                    tryTurns(place + 1, come | 1 << d, 10 * name + d + 1);
                }
            }
        }

        private void weighTurns(int name) {
            trial.copyFrom(now);
            for (int i = 0; i < house.drinkers; i++) {
                trial.drinkAround(turns[i]);
            }
            keepLess(trial.thirstOfAll(), name);
        }
    }

    /** Fractions over many evenings: shares in the tax, leaks by chance. */
    private static final class Chances {
        private static final int[] ORDERS_OF = {1, 1, 2, 6, 24};

        private final House house;
        private final Table now;
        private final Table trial;

        Chances(House house, Table now, Table trial) {
            this.house = house;
            this.now = now;
            this.trial = trial;
        }

        /** Orders are told together by who has come ahead of the drinker, as only that counts. */
        int shareOf(int drinker, boolean upper) {
            int sum = 0;
            for (int come = 0; come < 1 << house.drinkers; come++) {
                if (!hasBit(come, drinker)) {
                    int more = taxesOf(come | 1 << drinker) - taxesOf(come);
                    sum += more * ordersWith(Integer.bitCount(come));
                }
            }
            return fractionSide(sum, orders(house.drinkers), upper);
        }

        private int ordersWith(int ahead) {
            return orders(ahead) * orders(house.drinkers - ahead - 1);
        }

        private static int orders(int n) {
            return n >= 0 && n < ORDERS_OF.length ? ORDERS_OF[n] : 1;
        }

        private int taxesOf(int comers) {
            trial.copyFrom(now);
            trial.passEvening(comers);
            return trial.taxes();
        }

        int leakOf(int m, int x, boolean upper) {
            int good = 0;
            int all = 1;
            int filled = 0;
            for (int g = 0; g < MOST_GLASSES; g++) {
                if (now.contents[g] > 0) {
                    filled |= 1 << g;
                    all *= 10;
                }
            }
            for (int leaks = 0; leaks < 1 << MOST_GLASSES; leaks++) {
                if ((leaks & ~filled) == 0 && taxesByLeaks(leaks) >= m) {
                    good += weightOf(leaks, filled, x);
                }
            }
            return fractionSide(good, all, upper);
        }

        private int taxesByLeaks(int leaks) {
            trial.copyFrom(now);
            for (int g = 0; g < MOST_GLASSES; g++) {
                if (hasBit(leaks, g)) {
                    trial.contents[g]--;
                }
            }
            trial.passEvening(ALL_DRINKERS);
            return trial.taxes();
        }

        private static int weightOf(int leaks, int filled, int x) {
            int weight = 1;
            for (int g = 0; g < MOST_GLASSES; g++) {
                if (hasBit(filled, g)) {
                    weight *= hasBit(leaks, g) ? x : 10 - x;
                }
            }
            return weight;
        }
    }

    /** Two drinkers, each at one of its glasses. */
    private static final class Pair {
        private final House house;
        private final Table now;
        private int one;
        private int other;
        private int found;
        private int first;

        Pair(House house, Table now) {
            this.house = house;
            this.now = now;
        }

        void findRests(int drinker, int otherDrinker) {
            one = drinker;
            other = otherDrinker;
            found = 0;
            first = NONE;
            for (int g = 0; g < MOST_GLASSES; g++) {
                for (int h = 0; h < MOST_GLASSES; h++) {
                    if (house.sits(one, g) && house.sits(other, h) && isRest(g, h)) {
                        first = found == 0 ? 10 * g + h : first;
                        found++;
                    }
                }
            }
        }

        private boolean isRest(int g, int h) {
            for (int k = 0; k < MOST_GLASSES; k++) {
                if (house.sits(one, k) && oneHas(k, h) > oneHas(g, h)) {
                    return false;
                }
                if (house.sits(other, k) && otherHas(g, k) > otherHas(g, h)) {
                    return false;
                }
            }
            return true;
        }

        private int oneHas(int g, int h) {
            int drunk = gulp(house.drinkerKinds[one], now.thirsts[one], now.contents[g]);
            return g == h ? drunk - 1 : drunk;
        }

        private int otherHas(int g, int h) {
            int kind = house.drinkerKinds[other];
            int thirst = now.thirsts[other];
            if (g != h) {
                return gulp(kind, thirst, now.contents[h]);
            }
            int drunkAhead = gulp(house.drinkerKinds[one], now.thirsts[one], now.contents[g]);
            return gulp(kind, thirst, now.contents[h] - drunkAhead) - 1;
        }
    }
}
