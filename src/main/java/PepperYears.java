import java.util.Arrays;

/**
 * Pepper gardens by years, as ../shared/DOC.md promises it: yields, prices as known in a year,
 * tithes in a small language, the plan that brings most, stocks and ships' advances.
 *
 * <p>Every row is made with the object and used again: no call makes an object of its own.
 */
public final class PepperYears {
    /** There is none. */
    public static final int NONE = -1;

    private static final long BEYOND = -4_000_000_000_000_000_000L;

    private static final int WRONG_NUMBER = -1;
    private static final int NO_SUCH = -2;
    private static final int CANNOT_BE = -3;
    private static final int NO_ROOM = -5;
    private static final int WRONG_TEXT = -6;

    private static final int LAST_YEAR = 39;
    private static final int SORTS = 4;
    private static final int OLDEST = 24;
    private static final int MOST_YIELD = 500;
    private static final int MOST_RATIO = 100;
    private static final int MOST_PRICE = 1000;
    private static final int MOST_TERM = 100;
    private static final int MOST_VINES = 2000;
    private static final int MOST_FRESH = 100_000;
    private static final int MOST_MONEY = 100_000_000;
    private static final int MOST_YEARS_AHEAD = 20;
    private static final int MOST_WANTED = 10_000;
    private static final int MOST_PAID = 1_000_000;

    private static final int PRICES_ROOM = 300;
    private static final int GARDENS_ROOM = 12;
    private static final int TAPE_ROOM = 200;
    private static final int TITHES_ROOM = 20;
    private static final int LOTS_ROOM = GARDENS_ROOM * LAST_YEAR;
    private static final int ADVANCES_ROOM = 60;

    private final Husbandry husbandry;
    private final Prices prices;
    private final Picking picking;
    private final Gardens gardens;
    private final Tape tape;
    private final TitheRules titheRules;
    private final TitheReader titheReader;
    private final Planner planner;
    private final Lots lots;
    private final Advances advances;
    private int now;
    private int refusedBy;

    public PepperYears() {
        husbandry = new Husbandry();
        prices = new Prices();
        picking = new Picking(prices);
        gardens = new Gardens();
        tape = new Tape();
        titheRules = new TitheRules();
        titheReader = new TitheReader(tape);
        planner = new Planner(husbandry, picking, titheRules);
        lots = new Lots();
        advances = new Advances();
    }

    public int bears(int age, int piculs) {
        if (!within(age, 0, OLDEST) || !within(piculs, 0, MOST_YIELD)) {
            return refused(WRONG_NUMBER);
        }
        husbandry.yields[age] = piculs;
        return done(0);
    }

    public int ratio(int sort, int n) {
        if (!isSort(sort) || !within(n, 1, MOST_RATIO)) {
            return refused(WRONG_NUMBER);
        }
        picking.ratios[sort] = n;
        return done(0);
    }

    public int price(int sort, int year, int price, int known) {
        if (!isSort(sort) || !isYear(year) || !within(price, 0, MOST_PRICE) || !isYear(known)) {
            return refused(WRONG_NUMBER);
        }
        if (prices.size >= PRICES_ROOM) {
            return refused(NO_ROOM);
        }
        prices.tell(sort, year, price, known);
        return done(prices.size);
    }

    public int at(int sort, int year, int known) {
        if (!isSort(sort) || !isYear(year) || !isYear(known)) {
            return NONE;
        }
        return prices.asKnown(sort, year, known);
    }

    public int terms(int keep, int cost) {
        if (!within(keep, 0, MOST_TERM) || !within(cost, 0, MOST_TERM)) {
            return refused(WRONG_NUMBER);
        }
        husbandry.keep = keep;
        husbandry.cost = cost;
        return done(0);
    }

    public int garden(int vines, int age) {
        if (!within(vines, 1, MOST_VINES) || !within(age, NONE, OLDEST)) {
            return refused(WRONG_NUMBER);
        }
        if (gardens.size >= GARDENS_ROOM) {
            return refused(NO_ROOM);
        }
        return done(gardens.lay(vines, age));
    }

    public int of(int garden, int what) {
        if (!gardens.has(garden)) {
            return NONE;
        }
        switch (what) {
            case 0:
                return gardens.vines[garden];
            case 1:
                return gardens.ages[garden];
            default:
                return NONE;
        }
    }

    public int plant(int garden) {
        if (!gardens.has(garden)) {
            return refused(NO_SUCH);
        }
        if (gardens.ages[garden] != NONE) {
            return refused(CANNOT_BE);
        }
        gardens.ages[garden] = 0;
        return done(husbandry.costOf(gardens.vines[garden]));
    }

    public int fell(int garden) {
        if (!gardens.has(garden)) {
            return refused(NO_SUCH);
        }
        if (gardens.ages[garden] == NONE) {
            return refused(CANNOT_BE);
        }
        gardens.ages[garden] = NONE;
        return done(0);
    }

    public int fresh(int garden) {
        return gardens.has(garden) ? freshIn(garden) : NONE;
    }

    public int best(int fresh, int year, int known, int what) {
        if (!within(fresh, 0, MOST_FRESH) || !isYear(year) || !isYear(known)) {
            return NONE;
        }
        picking.turnTo(year, known);
        picking.choose(fresh);
        switch (what) {
            case 0:
                return picking.sort;
            case 1:
                return picking.piculs;
            case 2:
                return picking.brings;
            default:
                return NONE;
        }
    }

    public int feed(int a, int b, int c, int d, int e) {
        if (!tape.hasRoomForFive()) {
            return NONE;
        }
        tape.write(a);
        tape.write(b);
        tape.write(c);
        tape.write(d);
        tape.write(e);
        return tape.length;
    }

    public int end(int n) {
        if (!within(n, 0, tape.length)) {
            return NONE;
        }
        tape.length = n;
        return n;
    }

    public int tithes() {
        boolean good = titheReader.readAll();
        tape.length = 0;
        if (!good) {
            return refused(WRONG_TEXT);
        }
        titheRules.become(titheReader.draft);
        return done(titheRules.size);
    }

    public int fault() {
        return titheReader.faultPlace;
    }

    public long tithe(int vines, int age, int m) {
        if (!within(vines, 0, MOST_VINES) || !within(age, 0, OLDEST) || !within(m, 0, MOST_MONEY)) {
            return NONE;
        }
        return titheRules.dueFrom(vines, age, m);
    }

    public long plan(int garden, int n) {
        if (!gardens.has(garden) || !within(n, 1, MOST_YEARS_AHEAD) || now + n - 1 > LAST_YEAR) {
            return BEYOND;
        }
        return planner.make(gardens.vines[garden], gardens.ages[garden], now, n);
    }

    public int planned(int i) {
        if (i == NONE) {
            return planner.years;
        }
        return within(i, 0, planner.years - 1) ? planner.deeds[i] : NONE;
    }

    public int go(int years) {
        if (!within(years, 1, MOST_YEARS_AHEAD) || now + years > LAST_YEAR) {
            return refused(WRONG_NUMBER);
        }
        for (int i = 0; i < years; i++) {
            passYear();
        }
        return done(now);
    }

    public int stock(int sort, int garden) {
        if (!isSort(sort) || (garden != NONE && !gardens.has(garden))) {
            return NONE;
        }
        return lots.lying(sort, garden);
    }

    public int advance(int sort, int piculs, int due, int paid, int known) {
        if (!isSort(sort) || !within(piculs, 1, MOST_WANTED) || !isYear(due)
                || !within(paid, 0, MOST_PAID) || !isYear(known)) {
            return refused(WRONG_NUMBER);
        }
        if (advances.size >= ADVANCES_ROOM) {
            return refused(NO_ROOM);
        }
        // What was paid is asked for by no call, so it is looked at and not kept.
        return done(advances.take(sort, piculs, due, known));
    }

    public int bring(int advance) {
        if (!advances.has(advance)) {
            return refused(NO_SUCH);
        }
        return done(advances.fillFrom(lots, advance));
    }

    public int owed(int sort, int known) {
        if (!isSort(sort) || !isYear(known)) {
            return NONE;
        }
        return advances.missingBy(sort, known);
    }

    public int led(int advance, int garden) {
        if (!advances.has(advance) || !gardens.has(garden)) {
            return NONE;
        }
        return advances.cameFrom(advance, garden);
    }

    public int count(int what) {
        switch (what) {
            case 0:
                return now;
            case 1:
                return gardens.size;
            case 2:
                return prices.size;
            case 3:
                return titheRules.size;
            case 4:
                return lots.size;
            case 5:
                return advances.size;
            case 6:
                return tape.length;
            case 7:
                return lots.harvested;
            case 8:
                return advances.brought;
            default:
                return NONE;
        }
    }

    public int status() {
        return refusedBy;
    }

    private int refused(int code) {
        refusedBy = code;
        return code;
    }

    private int done(int answer) {
        refusedBy = 0;
        return answer;
    }

    private int freshIn(int garden) {
        return husbandry.freshFrom(gardens.vines[garden], gardens.ages[garden]);
    }

    private void passYear() {
        picking.turnTo(now, now);
        for (int g = 0; g < gardens.size; g++) {
            picking.choose(freshIn(g));
            lots.store(picking.sort, g, picking.piculs);
            gardens.ages[g] = olderThan(gardens.ages[g]);
        }
        now = Math.min(now + 1, LAST_YEAR);
    }

    private static boolean within(int n, int least, int most) {
        return least <= n && n <= most;
    }

    private static boolean isSort(int sort) {
        return within(sort, 0, SORTS - 1);
    }

    private static boolean isYear(int year) {
        return within(year, 0, LAST_YEAR);
    }

    /** The AGE a year later; bare ground (NONE) stays bare. */
    private static int olderThan(int age) {
        return age == NONE ? NONE : Math.min(age + 1, OLDEST);
    }

    /** What vines bear and what keeping and planting them costs. */
    private static final class Husbandry {
        final int[] yields = new int[OLDEST + 1];
        int keep = 1;
        int cost = 5;

        int freshFrom(int vines, int age) {
            return within(age, 0, OLDEST) ? vines * yields[age] / 100 : 0;
        }

        int costOf(int vines) {
            return vines * cost;
        }
    }

    /** The PRICES, in the order in which they were told. */
    private static final class Prices {
        private final int[] sorts = new int[PRICES_ROOM];
        private final int[] years = new int[PRICES_ROOM];
        private final int[] amounts = new int[PRICES_ROOM];
        private final int[] knownFrom = new int[PRICES_ROOM];
        int size;

        void tell(int sort, int year, int amount, int known) {
            if (size >= PRICES_ROOM) {
                return;
            }
            sorts[size] = sort;
            years[size] = year;
            amounts[size] = amount;
            knownFrom[size] = known;
            size++;
        }

        /** One pass: of the latest year that has a known price, the price told last. */
        int asKnown(int sort, int year, int k) {
            int found = 0;
            int foundYear = 0;
            for (int i = 0; i < size; i++) {
                boolean counts = sorts[i] == sort && knownFrom[i] <= k && years[i] <= year;
                if (counts && years[i] >= foundYear) {
                    found = amounts[i];
                    foundYear = years[i];
                }
            }
            return found;
        }
    }

    /** The choice of the BEST SORT: turned to a year's prices once, then asked for any harvest. */
    private static final class Picking {
        final int[] ratios = {100, 60, 35, 25};
        private final int[] yearPrices = new int[SORTS];
        private final Prices prices;
        int sort;
        int piculs;
        int brings;

        Picking(Prices prices) {
            this.prices = prices;
        }

        void turnTo(int year, int known) {
            for (int s = 0; s < SORTS; s++) {
                yearPrices[s] = prices.asKnown(s, year, known);
            }
        }

        void choose(int fresh) {
            brings = NONE;
            for (int s = 0; s < SORTS; s++) {
                int made = fresh * ratios[s] / 100;
                int worth = made * yearPrices[s];
                if (worth > brings) {
                    sort = s;
                    piculs = made;
                    brings = worth;
                }
            }
        }
    }

    /** The GARDENS: room for vines and the AGE of those that stand there. */
    private static final class Gardens {
        final int[] vines = new int[GARDENS_ROOM];
        final int[] ages = new int[GARDENS_ROOM];
        int size;

        boolean has(int garden) {
            return within(garden, 0, size - 1);
        }

        int lay(int room, int age) {
            if (size >= GARDENS_ROOM) {
                return NONE;
            }
            vines[size] = room;
            ages[size] = age;
            return size++;
        }
    }

    /** The TAPE, on which a TEXT is fed. */
    private static final class Tape {
        static final int BLANK = 0;
        static final int LETTER = 1;
        static final int DIGIT = 2;
        static final int OTHER = 3;

        private final int[] bytes = new int[TAPE_ROOM];
        int length;

        boolean hasRoomForFive() {
            return length + 5 * 4 <= TAPE_ROOM;
        }

        void write(int four) {
            for (int shift = 24; shift >= 0 && length < TAPE_ROOM; shift -= 8) {
                bytes[length] = (four >>> shift) & 255;
                length++;
            }
        }

        /** The byte there, NONE beyond the end. */
        int byteAt(int place) {
            return 0 <= place && place < length ? bytes[place] : NONE;
        }

        int kindAt(int place) {
            int b = byteAt(place);
            if (b == ' ') {
                return BLANK;
            }
            if ('a' <= b && b <= 'z') {
                return LETTER;
            }
            return '0' <= b && b <= '9' ? DIGIT : OTHER;
        }
    }

    /** The TITHES, one row each: its kind and up to three numbers. */
    private static final class TitheRules {
        static final int PART = 0;
        static final int VINES = 1;
        static final int FREE = 2;
        static final int MOST = 3;

        private final int[] kinds = new int[TITHES_ROOM];
        private final int[] firsts = new int[TITHES_ROOM];
        private final int[] seconds = new int[TITHES_ROOM];
        private final int[] fromAges = new int[TITHES_ROOM];
        int size;

        boolean isFull() {
            return size >= TITHES_ROOM;
        }

        void put(int kind, int first, int second, int fromAge) {
            if (isFull()) {
                return;
            }
            kinds[size] = kind;
            firsts[size] = first;
            seconds[size] = second;
            fromAges[size] = fromAge;
            size++;
        }

        void become(TitheRules other) {
            System.arraycopy(other.kinds, 0, kinds, 0, TITHES_ROOM);
            System.arraycopy(other.firsts, 0, firsts, 0, TITHES_ROOM);
            System.arraycopy(other.seconds, 0, seconds, 0, TITHES_ROOM);
            System.arraycopy(other.fromAges, 0, fromAges, 0, TITHES_ROOM);
            size = other.size;
        }

        long dueFrom(int vines, int age, int money) {
            long due = 0;
            int free = 0;
            for (int i = 0; i < size; i++) {
                switch (kinds[i]) {
                    case PART:
                        due += partOf(money, firsts[i], seconds[i]);
                        break;
                    case VINES:
                        due += age >= fromAges[i] ? eachOf(vines, firsts[i], seconds[i]) : 0;
                        break;
                    case FREE:
                        free = firsts[i];
                        break;
                    default:
                        due = Math.min(due, firsts[i]);
                        break;
                }
            }
            return vines < free ? 0 : due;
        }

        private static long partOf(int money, int share, int whole) {
            return whole < 1 ? 0 : (long) money * share / whole;
        }

        private static long eachOf(int vines, int each, int amount) {
            return each < 1 ? 0 : (long) (vines / each) * amount;
        }
    }

    /** Reads the TAPE as TITHES into a draft, so that a wrong TEXT leaves the TITHES as they are. */
    private static final class TitheReader {
        private static final int MOST_NUMBER = 10_000;

        final TitheRules draft = new TitheRules();
        int faultPlace = NONE;
        private final Tape tape;
        private final int[] starts = new int[TAPE_ROOM];
        private final int[] stops = new int[TAPE_ROOM];
        private final int[] kinds = new int[TAPE_ROOM];
        private int tokens;
        private int token;

        TitheReader(Tape tape) {
            this.tape = tape;
        }

        boolean readAll() {
            cutTokens();
            draft.size = 0;
            faultPlace = NONE;
            boolean more = tokens > 0;
            // One round beyond the room: the tithe too many is the fault.
            for (int i = 0; i <= TITHES_ROOM && more; i++) {
                more = readOne() && readSeparator();
            }
            return faultPlace == NONE;
        }

        private void cutTokens() {
            tokens = 0;
            token = 0;
            int last = Tape.BLANK;
            for (int place = 0; place < tape.length && tokens < TAPE_ROOM; place++) {
                int kind = tape.kindAt(place);
                boolean inRow = kind == last && kind != Tape.OTHER;
                if (kind != Tape.BLANK && !inRow) {
                    starts[tokens] = place;
                    kinds[tokens] = kind;
                    tokens++;
                }
                if (kind != Tape.BLANK && tokens > 0) {
                    stops[tokens - 1] = place + 1;
                }
                last = kind;
            }
        }

        private boolean readOne() {
            if (draft.isFull()) {
                return wrongHere();
            }
            if (skipsWord("part")) {
                return readPart();
            }
            if (skipsWord("vines")) {
                return readVines();
            }
            if (skipsWord("free")) {
                return readSingle(TitheRules.FREE);
            }
            if (skipsWord("most")) {
                return readSingle(TitheRules.MOST);
            }
            return wrongHere();
        }

        /** Whether another tithe must follow. */
        private boolean readSeparator() {
            return token < tokens && needsWord(";");
        }

        private boolean readPart() {
            int share = readNumber(0, MOST_NUMBER);
            if (share == NONE || !needsWord("of")) {
                return false;
            }
            int whole = readNumber(Math.max(share, 1), MOST_NUMBER);
            if (whole == NONE) {
                return false;
            }
            draft.put(TitheRules.PART, share, whole, 0);
            return true;
        }

        private boolean readVines() {
            int each = readNumber(1, MOST_NUMBER);
            if (each == NONE || !needsWord("each")) {
                return false;
            }
            int amount = readNumber(0, MOST_NUMBER);
            if (amount == NONE) {
                return false;
            }
            int fromAge = skipsWord("from") ? readNumber(0, OLDEST) : 0;
            if (fromAge == NONE) {
                return false;
            }
            draft.put(TitheRules.VINES, each, amount, fromAge);
            return true;
        }

        private boolean readSingle(int kind) {
            int number = readNumber(0, MOST_NUMBER);
            if (number == NONE) {
                return false;
            }
            draft.put(kind, number, 0, 0);
            return true;
        }

        /** The number that comes next, if it is within the bounds; else NONE, and that is the fault. */
        private int readNumber(int least, int most) {
            int number = numberHere();
            if (number < least || number > most) {
                wrongHere();
                return NONE;
            }
            token++;
            return number;
        }

        private int numberHere() {
            if (token >= tokens || kinds[token] != Tape.DIGIT) {
                return NONE;
            }
            int number = 0;
            for (int i = starts[token]; i < stops[token]; i++) {
                // Held just beyond the most: a row of 200 digits must not wrap around.
                number = Math.min(number * 10 + tape.byteAt(i) - '0', MOST_NUMBER + 1);
            }
            return number;
        }

        private boolean needsWord(String word) {
            return skipsWord(word) || wrongHere();
        }

        private boolean skipsWord(String word) {
            if (token >= tokens || stops[token] - starts[token] != word.length()) {
                return false;
            }
            for (int i = 0; i < word.length(); i++) {
                if (tape.byteAt(starts[token] + i) != word.charAt(i)) {
                    return false;
                }
            }
            token++;
            return true;
        }

        private boolean wrongHere() {
            faultPlace = token < tokens ? starts[token] : tape.length;
            return false;
        }
    }

    /**
     * The PLAN, reckoned from its last year back: for each state of the ground the most that the
     * years left can bring. A state is the AGE and one more, so that bare ground (NONE) is 0.
     */
    private static final class Planner {
        private static final int BARE = 0;
        private static final int YOUNG = 1;
        private static final int STATES = OLDEST + 2;
        private static final int KEEP_ON = 0;
        private static final int FELL = 1;
        private static final int PLANT = 2;
        private static final int RENEW = 3;

        final int[] deeds = new int[MOST_YEARS_AHEAD];
        /** How many the latest PLAN has; NONE ahead of any, as a PLAN of no YEARS can't be. */
        int years = NONE;
        private final int[] choices = new int[MOST_YEARS_AHEAD * STATES];
        private final long[] gains = new long[STATES];
        private final long[] worths = new long[STATES];
        private final long[] laterWorths = new long[STATES];
        private final Husbandry husbandry;
        private final Picking picking;
        private final TitheRules titheRules;

        Planner(Husbandry husbandry, Picking picking, TitheRules titheRules) {
            this.husbandry = husbandry;
            this.picking = picking;
            this.titheRules = titheRules;
        }

        long make(int vines, int age, int now, int n) {
            years = Math.min(n, MOST_YEARS_AHEAD);
            Arrays.fill(worths, 0);
            for (int y = years - 1; y >= 0; y--) {
                System.arraycopy(worths, 0, laterWorths, 0, STATES);
                picking.turnTo(now + y, now);
                for (int state = 0; state < STATES; state++) {
                    gains[state] = gainOf(vines, state);
                }
                decideYear(y, husbandry.costOf(vines));
            }
            int state = age + 1;
            follow(state);
            return within(state, 0, STATES - 1) ? worths[state] : BEYOND;
        }

        private long gainOf(int vines, int state) {
            if (state == BARE) {
                return 0;
            }
            int age = state - 1;
            picking.choose(husbandry.freshFrom(vines, age));
            long tithe = titheRules.dueFrom(vines, age, picking.brings);
            return picking.brings - tithe - (long) husbandry.keep * vines;
        }

        private void decideYear(int y, int cost) {
            for (int state = 0; state < STATES; state++) {
                int choice = KEEP_ON;
                long most = worthIn(state);
                if (state != BARE && worthIn(BARE) > most) {
                    choice = FELL;
                    most = worthIn(BARE);
                }
                if (worthIn(YOUNG) - cost > most) {
                    choice = state == BARE ? PLANT : RENEW;
                    most = worthIn(YOUNG) - cost;
                }
                choices[y * STATES + state] = choice;
                worths[state] = most;
            }
        }

        /** What the ground brings from this year on, if it is in that state at this harvest. */
        private long worthIn(int state) {
            return gains[state] + laterWorths[nextOf(state)];
        }

        private void follow(int first) {
            int state = first;
            for (int y = 0; y < years && within(state, 0, STATES - 1); y++) {
                deeds[y] = choices[y * STATES + state];
                state = nextOf(after(deeds[y], state));
            }
        }

        private static int after(int deed, int state) {
            switch (deed) {
                case FELL:
                    return BARE;
                case PLANT:
                case RENEW:
                    return YOUNG;
                default:
                    return state;
            }
        }

        private static int nextOf(int state) {
            return olderThan(state - 1) + 1;
        }
    }

    /** The LOTS as they were harvested; one that is used up keeps its place. */
    private static final class Lots {
        private final int[] sorts = new int[LOTS_ROOM];
        private final int[] origins = new int[LOTS_ROOM];
        private final int[] left = new int[LOTS_ROOM];
        int size;
        int harvested;

        void store(int sort, int garden, int piculs) {
            if (piculs < 1 || size >= LOTS_ROOM) {
                return;
            }
            sorts[size] = sort;
            origins[size] = garden;
            left[size] = piculs;
            size++;
            harvested += piculs;
        }

        /** Piculs of a sort from a garden (NONE: from all). */
        int lying(int sort, int garden) {
            int sum = 0;
            for (int i = 0; i < size; i++) {
                if (sorts[i] == sort && (garden == NONE || origins[i] == garden)) {
                    sum += left[i];
                }
            }
            return sum;
        }
    }

    /** The ADVANCES: what is missing of each, and from which garden its piculs came. */
    private static final class Advances {
        private final int[] sorts = new int[ADVANCES_ROOM];
        private final int[] missing = new int[ADVANCES_ROOM];
        private final int[] dueYears = new int[ADVANCES_ROOM];
        private final int[] knownFrom = new int[ADVANCES_ROOM];
        private final int[] origins = new int[ADVANCES_ROOM * GARDENS_ROOM];
        int size;
        int brought;

        boolean has(int advance) {
            return within(advance, 0, size - 1);
        }

        int take(int sort, int piculs, int due, int known) {
            if (size >= ADVANCES_ROOM) {
                return NONE;
            }
            sorts[size] = sort;
            missing[size] = piculs;
            dueYears[size] = due;
            knownFrom[size] = known;
            return size++;
        }

        int fillFrom(Lots lots, int advance) {
            int sum = 0;
            for (int i = 0; i < lots.size && missing[advance] > 0; i++) {
                if (lots.sorts[i] == sorts[advance]) {
                    int piculs = Math.min(missing[advance], lots.left[i]);
                    lots.left[i] -= piculs;
                    missing[advance] -= piculs;
                    origins[advance * GARDENS_ROOM + lots.origins[i]] += piculs;
                    sum += piculs;
                }
            }
            brought += sum;
            return sum;
        }

        int missingBy(int sort, int year) {
            int sum = 0;
            for (int i = 0; i < size; i++) {
                if (sorts[i] == sort && knownFrom[i] <= year && dueYears[i] <= year) {
                    sum += missing[i];
                }
            }
            return sum;
        }

        int cameFrom(int advance, int garden) {
            return origins[advance * GARDENS_ROOM + garden];
        }
    }
}
