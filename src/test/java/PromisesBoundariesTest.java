/** Of the promises 1 to 27 each sentence that names a boundary has a test of its own. */
public final class PromisesBoundariesTest {
    private static final int NONE = PepperYears.NONE;
    private static final long BEYOND = -4_000_000_000_000_000_000L;
    private static final int MIN = Integer.MIN_VALUE;
    private static final int MAX = Integer.MAX_VALUE;
    private static final int[] NEVER_THERE = {-2, -3, 60, 200, MIN, MIN + 1, MAX - 1, MAX};

    public static void main(String[] args) {
        newObject();
        settings();
        gardens();
        berries();
        tapeAndTithes();
        plans();
        years();
        ships();
        counts();
        Checks.finish();
    }

    private static void settings() {
        bears();
        ratio();
        priceHowMany();
        priceRefused();
        at();
        terms();
        termsRefused();
    }

    private static void gardens() {
        gardenNumber();
        gardenRefused();
        of();
        ofWhat();
        plantCost();
        plantRefused();
        fell();
        fellRefused();
    }

    private static void berries() {
        fresh();
        freshNone();
        bestRange();
        bestWhat();
    }

    private static void tapeAndTithes() {
        feedBytes();
        feedTooMany();
        endFirstBytes();
        endNone();
        tithesEmptiesTheTape();
        tithesOfBlanks();
        tithesRefused();
        faultOfTheLatest();
        faultNone();
        titheRanges();
    }

    private static void plans() {
        planKept();
        planBeyond();
        planBeyondTheYears();
        plannedYear();
        plannedHowMany();
        plannedNone();
    }

    private static void years() {
        goYears();
        goAboveThirtyNine();
        stockOfAll();
        stockNone();
    }

    private static void ships() {
        advanceNumber();
        advanceRefused();
        bring();
        bringRefused();
        owed();
        ledNone();
    }

    private static void counts() {
        countOfEach();
        countNone();
        statusAhead();
        statusOfRefused();
        statusAgainZero();
        statusOfTheOthers();
    }

    private static void sentence(String words) {
        Checks.sentence(words);
    }

    private static void due(String call, long got, long want) {
        Checks.due(call, got, want);
    }

    private static PepperYears made() {
        return new PepperYears();
    }

    /** Vines of every AGE bear 100; a picul is sold green for 1; nothing else costs. */
    private static PepperYears even() {
        PepperYears x = made();
        for (int age = 0; age <= 24; age++) {
            x.bears(age, 100);
        }
        x.price(0, 0, 1, 0);
        x.terms(0, 0);
        return x;
    }

    // ---- 1

    private static void newObject() {
        sentence("Year 0; no GARDENS, PRICES");
        PepperYears x = made();
        due("NONE", NONE, -1);
        due("NOW", x.count(0), 0);
        due("GARDENS", x.count(1), 0);
        due("PRICES", x.count(2), 0);
        due("TITHES, LOTS, ADVANCES", x.count(3) + x.count(4) + x.count(5), 0);
        due("TAPE, harvested, BROUGHT", x.count(6) + x.count(7) + x.count(8), 0);
        due("no GARDEN 0", x.of(0, 0), NONE);
        due("no PRICE", x.at(0, 39, 39), 0);
        due("the first GARDEN", x.garden(1, 0), 0);
        due("the first PRICE", x.price(0, 0, 0, 0), 1);
        due("of another object nothing", made().count(1) + made().count(2), 0);
    }

    // ---- 2, 3

    private static void bears() {
        sentence("YIELD of an AGE: 0; -1");
        PepperYears x = made();
        x.garden(100, 0);
        x.garden(100, 24);
        due("least", x.bears(0, 0), 0);
        due("most", x.bears(24, 500), 0);
        due("age below", x.bears(-1, 7), -1);
        due("age above", x.bears(25, 7), -1);
        due("piculs below", x.bears(24, -1), -1);
        due("piculs above", x.bears(24, 501), -1);
        due("both", x.bears(MAX, MIN), -1);
        due("a refused one leaves it", x.fresh(0), 0);
        due("a refused one leaves it", x.fresh(1), 500);
    }

    private static void ratio() {
        sentence("RATIO of a SORT: 0; -1");
        PepperYears x = made();
        x.price(0, 0, 1, 0);
        x.price(3, 1, 1000, 0);
        due("least", x.ratio(0, 1), 0);
        due("most", x.ratio(3, 100), 0);
        due("sort below", x.ratio(-1, 7), -1);
        due("sort above", x.ratio(4, 7), -1);
        due("n below", x.ratio(0, 0), -1);
        due("n above", x.ratio(3, 101), -1);
        due("both", x.ratio(MIN, MAX), -1);
        due("a refused one leaves it", x.best(100, 0, 0, 1), 1);
        due("a refused one leaves it", x.best(100, 1, 0, 1), 100);
    }

    // ---- 4, 5

    private static void priceHowMany() {
        sentence("A PRICE: how many there are");
        PepperYears x = made();
        for (int i = 1; i <= 300; i++) {
            due("price", x.price(0, 0, 5, 0), i);
        }
        due("none more", x.price(0, 0, 5, 0), -5);
        due("how many", x.count(2), 300);
    }

    private static void priceRefused() {
        sentence("A PRICE: how many there are. -1; -5");
        PepperYears x = made();
        due("sort", x.price(-1, 0, 0, 0), -1);
        due("sort", x.price(4, 0, 0, 0), -1);
        due("year", x.price(0, -1, 0, 0), -1);
        due("year", x.price(0, 40, 0, 0), -1);
        due("price", x.price(0, 0, -1, 0), -1);
        due("price", x.price(0, 0, 1001, 0), -1);
        due("known", x.price(0, 0, 0, -1), -1);
        due("known", x.price(0, 0, 0, 40), -1);
        due("none is told", x.count(2), 0);
        due("the next is the first", x.price(3, 39, 1000, 39), 1);
    }

    private static void at() {
        sentence("PRICE as known in a YEAR; NONE");
        PepperYears x = made();
        x.price(3, 39, 1000, 39);
        due("last of all", x.at(3, 39, 39), 1000);
        due("a YEAR ahead", x.at(3, 38, 39), 0);
        due("not yet known", x.at(3, 39, 38), 0);
        for (int n : new int[] {-1, 40, MIN, MAX}) {
            due("sort", x.at(n, 0, 0), NONE);
            due("year", x.at(3, n, 39), NONE);
            due("known", x.at(3, 39, n), NONE);
        }
        due("sort 4", x.at(4, 39, 39), NONE);
    }

    // ---- 6

    private static void terms() {
        sentence("KEEP, COST: 0; -1");
        PepperYears x = made();
        x.garden(100, NONE);
        due("least", x.terms(0, 0), 0);
        due("COST", x.plant(0), 0);
        due("most", x.terms(100, 100), 0);
        x.fell(0);
        due("COST", x.plant(0), 10_000);
    }

    private static void termsRefused() {
        sentence("KEEP, COST: 0; -1");
        int[][] wrong = {{-1, 7}, {101, 7}, {7, -1}, {7, 101}, {MIN, 7}, {7, MAX}};
        for (int[] w : wrong) {
            PepperYears x = made();
            x.bears(0, 500);
            x.price(0, 0, 100, 0);
            x.garden(100, NONE);
            x.terms(3, 4);
            due("refused", x.terms(w[0], w[1]), -1);
            due("both stay", x.plan(0, 1), 50_000 - 300 - 400);
        }
    }

    // ---- 7, 8

    private static void gardenNumber() {
        sentence("A GARDEN, bare (age NONE) or with vines: its number");
        PepperYears x = made();
        due("bare", x.garden(1, NONE), 0);
        due("youngest", x.garden(2, 0), 1);
        due("oldest", x.garden(2000, 24), 2);
        due("bare", x.of(0, 1), NONE);
        due("youngest", x.of(1, 1), 0);
        due("oldest", x.of(2, 1), 24);
        for (int g = 3; g < 12; g++) {
            due("its number", x.garden(5, 5), g);
        }
    }

    private static void gardenRefused() {
        sentence("its number. -1; -5");
        PepperYears x = made();
        int[][] wrong = {{0, 0}, {-1, 0}, {2001, 0}, {1, -2}, {1, 25}, {MIN, 0}, {MAX, 0}, {1, MIN}, {1, MAX}};
        for (int[] w : wrong) {
            due("garden(" + w[0] + ", " + w[1] + ")", x.garden(w[0], w[1]), -1);
        }
        due("none is there", x.count(1), 0);
        for (int g = 0; g < 12; g++) {
            x.garden(g + 1, NONE);
        }
        for (int[] w : wrong) {
            due("garden(" + w[0] + ", " + w[1] + ")", x.garden(w[0], w[1]), -1);
        }
        due("no room", x.garden(1, 0), -5);
        due("twelve are there", x.count(1), 12);
    }

    private static void of() {
        sentence("1 AGE (NONE: bare)");
        PepperYears x = made();
        x.garden(7, NONE);
        due("bare", x.of(0, 1), NONE);
        due("its vines all the same", x.of(0, 0), 7);
        x.plant(0);
        due("planted", x.of(0, 1), 0);
        x.fell(0);
        due("felled", x.of(0, 1), NONE);
    }

    private static void ofWhat() {
        sentence("Of a GARDEN what 0 the vines that can stand there");
        PepperYears x = made();
        x.garden(7, 8);
        for (int n : new int[] {-1, 2, MIN, MAX}) {
            due("what " + n, x.of(0, n), NONE);
        }
        for (int n : NEVER_THERE) {
            due("garden " + n, x.of(n, 0), NONE);
        }
        due("garden -1", x.of(-1, 0), NONE);
        due("the next garden", x.of(1, 0), NONE);
    }

    // ---- 9, 10

    private static void plantCost() {
        sentence("Planted in NOW: the COST");
        PepperYears x = made();
        x.garden(1, NONE);
        x.garden(2000, NONE);
        x.garden(3, NONE);
        due("5 at first", x.plant(0), 5);
        x.terms(0, 100);
        due("most", x.plant(1), 200_000);
        x.terms(100, 0);
        due("least", x.plant(2), 0);
        x.go(3);
        due("in NOW, of AGE 0", x.of(2, 1), 3);
        x.fell(2);
        due("again", x.plant(2), 0);
        due("in NOW, of AGE 0", x.of(2, 1), 0);
    }

    private static void plantRefused() {
        sentence("Planted in NOW: the COST. -2; -3");
        PepperYears x = made();
        due("no GARDEN at all", x.plant(0), -2);
        x.garden(5, 0);
        x.garden(5, 24);
        for (int n : NEVER_THERE) {
            due("garden " + n, x.plant(n), -2);
        }
        due("garden -1", x.plant(-1), -2);
        due("the next one", x.plant(2), -2);
        due("where young vines stand", x.plant(0), -3);
        due("where old ones stand", x.plant(1), -3);
        due("they stay", x.of(1, 1), 24);
    }

    private static void fell() {
        sentence("Felled: 0");
        PepperYears x = even();
        x.garden(100, 0);
        x.garden(100, 24);
        due("youngest", x.fell(0), 0);
        due("oldest", x.fell(1), 0);
        due("bare", x.of(0, 1) + x.of(1, 1), -2);
        due("nothing borne", x.fresh(0) + x.fresh(1), 0);
        x.go(1);
        due("nothing harvested", x.count(4), 0);
    }

    private static void fellRefused() {
        sentence("Felled: 0. -2; -3");
        PepperYears x = made();
        due("no GARDEN at all", x.fell(0), -2);
        x.garden(5, NONE);
        for (int n : NEVER_THERE) {
            due("garden " + n, x.fell(n), -2);
        }
        due("garden -1", x.fell(-1), -2);
        due("the next one", x.fell(1), -2);
        due("bare", x.fell(0), -3);
        x.plant(0);
        due("felled", x.fell(0), 0);
        due("felled already", x.fell(0), -3);
    }

    // ---- 11, 12

    private static void fresh() {
        sentence("if it is as it is in NOW");
        PepperYears x = made();
        x.bears(0, 3);
        x.bears(1, 500);
        x.garden(2000, 0);
        due("in 0", x.fresh(0), 60);
        x.go(1);
        due("in 1", x.fresh(0), 10_000);
        x.fell(0);
        due("felled", x.fresh(0), 0);
        x.plant(0);
        due("planted", x.fresh(0), 60);
        x.bears(0, 0);
        due("YIELD 0", x.fresh(0), 0);
    }

    private static void freshNone() {
        sentence("Fresh berries that a GARDEN bears in a YEAR");
        PepperYears x = made();
        due("no GARDEN at all", x.fresh(0), NONE);
        x.garden(5, 0);
        for (int n : NEVER_THERE) {
            due("garden " + n, x.fresh(n), NONE);
        }
        due("garden -1", x.fresh(-1), NONE);
        due("the next one", x.fresh(1), NONE);
    }

    private static void bestRange() {
        sentence("BEST SORT for so many fresh piculs (0 .. 100,000)");
        Checks.range("fresh", n -> made().best(n, 0, 0, 0), 0, 100_000, 0, NONE);
        PepperYears x = made();
        x.price(0, 0, 1000, 0);
        due("most", x.best(100_000, 0, 0, 2), 100_000_000);
        due("most but one", x.best(99_999, 39, 39, 1), 99_999);
        due("none", x.best(0, 0, 0, 1) + x.best(0, 0, 0, 2), 0);
    }

    private static void bestWhat() {
        sentence("the SORT (what 0), its piculs (1), what they bring (2)");
        PepperYears x = made();
        x.price(2, 0, 10, 0);
        due("what 0", x.best(100, 0, 0, 0), 2);
        due("what 1", x.best(100, 0, 0, 1), 35);
        due("what 2", x.best(100, 0, 0, 2), 350);
        for (int n : new int[] {-1, 3, MIN, MAX}) {
            due("what " + n, x.best(100, 0, 0, n), NONE);
        }
    }

    // ---- 13, 14

    private static void feedBytes() {
        sentence("Twenty bytes come behind the TAPE, four of each number, the highest first: how many it has");
        PepperYears x = made();
        due("first", x.feed(0x70617274, 0x20312020, 0x6f662032, 0x203b2020, 0x66726565), 20);
        due("behind it", x.feed(0x20202020, 0x20202037, 0x3b6d6f73, 0x74202039, 0x20202020), 40);
        due("as read", x.tithes(), 3);
        due("part 1 of 2", x.tithe(7, 0, 10), 5);
        due("free 7", x.tithe(6, 0, 10), 0);
        due("most 9", x.tithe(7, 0, 100), 9);
        // Each byte by its own place: a wrong one is the FAULT there.
        for (int place = 0; place < 20; place++) {
            int[] w = {0x20202020, 0x20202020, 0x20202020, 0x20202020, 0x20202020};
            w[place / 4] |= 0x80 << (24 - 8 * (place % 4));
            PepperYears y = made();
            due("feed", y.feed(w[0], w[1], w[2], w[3], w[4]), 20);
            due("wrong byte", y.tithes(), -6);
            due("its place", y.fault(), place);
        }
    }

    private static void feedTooMany() {
        sentence("NONE, if there would be more than 200");
        PepperYears x = made();
        for (int i = 1; i <= 10; i++) {
            due("feed", x.feed(0x20202020, 0x20202020, 0x20202020, 0x20202020, 0x20202020), 20 * i);
        }
        due("220", x.feed(MIN, MIN, MIN, MIN, MIN), NONE);
        due("nothing comes", x.count(6), 200);
        x.end(181);
        due("201", x.feed(MIN, MIN, MIN, MIN, MIN), NONE);
        due("nothing comes", x.count(6), 181);
        x.end(180);
        due("200", x.feed(0x20202020, 0x20202020, 0x20202020, 0x20202020, 0x66726565), 200);
        due("200 bytes are read", x.tithes(), -6);
        due("to the end", x.fault(), 200);
        due("room again", x.feed(0, 0, 0, 0, 0), 20);
    }

    private static void endFirstBytes() {
        sentence("The TAPE has its first n bytes alone: n");
        PepperYears x = made();
        due("none of none", x.end(0), 0);
        x.feed(0x66726565, 0x20313233, 0x20202020, 0x20202020, 0x20202020);
        due("all", x.end(20), 20);
        due("some", x.end(7), 7);
        due("how many", x.count(6), 7);
        due("as read", x.tithes(), 1);
        x.feed(0x70617274, 0x31206f66, 0x20313b20, 0x20202020, 0x20202020);
        x.end(9);
        due("cut ahead of the number: wrong", x.tithes(), -6);
        due("at its end", x.fault(), 9);
        x.feed(0x78202020, 0x20202020, 0x20202020, 0x20202020, 0x20202020);
        due("none of some", x.end(0), 0);
        due("empty", x.count(6), 0);
        due("nothing is read", x.tithes(), 0);
    }

    private static void endNone() {
        sentence("NONE, if it has not so many, or n is below 0");
        PepperYears x = made();
        due("one of none", x.end(1), NONE);
        due("below", x.end(-1), NONE);
        x.feed(0, 0, 0, 0, 0);
        due("one too many", x.end(21), NONE);
        due("it stays", x.count(6), 20);
        due("below", x.end(-1), NONE);
        due("far below", x.end(MIN), NONE);
        due("far above", x.end(MAX), NONE);
        due("it stays", x.count(6), 20);
        x.end(5);
        due("what is cut is gone", x.end(6), NONE);
        due("it stays", x.count(6), 5);
    }

    // ---- 15, 16, 17

    private static void tithesEmptiesTheTape() {
        sentence("The TAPE, which is empty then, becomes the TITHES: how many");
        PepperYears x = made();
        Checks.good(x, "part 1 of 2", 1);
        due("empty: nothing to cut", x.end(1), NONE);
        Checks.good(x, "most1;".repeat(19) + "most1", 20);
        due("the earlier ones are gone", x.tithe(1, 0, 100), 0);
        Checks.good(x, "part 1 of 4", 1);
        due("alone", x.tithe(1, 0, 100), 25);
        Checks.bad(x, "part 1 of 4;", 12);
        due("empty also behind a wrong one", x.end(1), NONE);
    }

    private static void tithesOfBlanks() {
        sentence("(blanks alone: none)");
        for (int n : new int[] {0, 1, 20, 199, 200}) {
            PepperYears x = made();
            Checks.good(x, "part 1 of 1", 1);
            Checks.good(x, " ".repeat(n), 0);
            due("none", x.tithe(1, 0, 100), 0);
        }
    }

    private static void tithesRefused() {
        sentence("-6: they stay, FAULT is told");
        PepperYears x = made();
        Checks.bad(x, "x", 0);
        due("none stay", x.tithe(1, 0, 100), 0);
        Checks.good(x, "part 1 of 2;most 40;free 3", 3);
        for (String wrong : new String[] {"free 1;most 1;?", "part 1 of 1;part 2 of 1", "most1;".repeat(20)}) {
            Checks.write(x, wrong);
            due("tithes of " + wrong, x.tithes(), -6);
            due("status", x.status(), -6);
            due("how many stay", x.count(3), 3);
            due("part", x.tithe(3, 0, 20), 10);
            due("most", x.tithe(3, 0, 200), 40);
            due("free", x.tithe(2, 0, 200), 0);
        }
    }

    private static void faultOfTheLatest() {
        sentence("FAULT of the latest tithes(): its place");
        PepperYears x = made();
        Checks.bad(x, "free 1 x", 7);
        Checks.bad(x, "x", 0);
        Checks.bad(x, "free" + " ".repeat(196), 200);
        x.feed(0, 0, 0, 0, 0);
        x.end(3);
        due("asked again", x.fault(), 200);
        due("the latest", x.tithes(), -6);
        due("the latest", x.fault(), 0);
    }

    private static void faultNone() {
        sentence("NONE without");
        PepperYears x = made();
        due("ahead of any", x.fault(), NONE);
        Checks.bad(x, "x", 0);
        Checks.good(x, "free 1", 1);
        due("behind a right one", x.fault(), NONE);
        Checks.bad(x, "free", 4);
        Checks.good(x, "", 0);
        due("behind an empty one", x.fault(), NONE);
    }

    private static void titheRanges() {
        sentence("TITHE of v vines (0 .. 2000)");
        Checks.range("vines", n -> made().tithe(n, 0, 0), 0, 2000, 0, NONE);
        sentence("of an AGE (0 .. 24)");
        Checks.range("age", n -> made().tithe(0, n, 0), 0, 24, 0, NONE);
        sentence("whose piculs bring m (0 .. 100,000,000)");
        Checks.range("m", n -> made().tithe(0, 0, n), 0, 100_000_000, 0, NONE);
        PepperYears x = made();
        Checks.good(x, "part1of1;".repeat(19) + "vines1each10", 20);
        due("most of it", x.tithe(2000, 24, 100_000_000), 1_900_000_000L + 20_000);
        Checks.good(x, "part1of1;vines1each10000;".repeat(7) + "vines1each10000", 15);
        due("most of it", x.tithe(2000, 24, 100_000_000), 700_000_000L + 160_000_000);
    }

    // ---- 18, 19

    private static void planKept() {
        sentence("kept as the latest: what it brings");
        PepperYears x = even();
        x.garden(100, 0);
        x.garden(2000, 0);
        due("one YEAR", x.plan(0, 1), 100);
        due("of one", x.planned(-1), 1);
        due("twenty YEARS", x.plan(1, 20), 40_000);
        due("of twenty", x.planned(-1), 20);
        due("wrong", x.plan(1, 21), BEYOND);
        due("wrong", x.plan(2, 1), BEYOND);
        due("it stays the latest", x.planned(-1), 20);
        for (int age = 0; age <= 24; age++) {
            x.bears(age, 500);
        }
        x.price(0, 0, 1000, 0);
        due("most", x.plan(1, 20), 200_000_000);
        x.terms(100, 100);
        due("most, kept", x.plan(1, 20), 20 * (10_000_000 - 200_000));
    }

    private static void planBeyond() {
        sentence("BEYOND (-4,000,000,000,000,000,000) for a number, GARDEN that can't be");
        PepperYears x = made();
        due("no GARDEN at all", x.plan(0, 1), BEYOND);
        x.garden(5, 0);
        for (int n : new int[] {0, -1, 21, MIN, MAX}) {
            due("n " + n, x.plan(0, n), BEYOND);
        }
        for (int n : NEVER_THERE) {
            due("garden " + n, x.plan(n, 1), BEYOND);
        }
        due("garden -1", x.plan(-1, 1), BEYOND);
        due("the next one", x.plan(1, 1), BEYOND);
        due("no PLAN yet", x.planned(-1), NONE);
        due("right", x.plan(0, 1), 0);
    }

    private static void planBeyondTheYears() {
        sentence("(YEARS beyond 39, too)");
        for (int now : new int[] {20, 21, 38, 39}) {
            PepperYears x = even();
            x.garden(100, 0);
            x.price(0, 39, 7, 0);
            x.go(20);
            if (now > 20) {
                x.go(now - 20);
            }
            int last = 40 - now;
            due("to 39, from " + now, x.plan(0, last), 100 * (last - 1) + 700);
            due("how many", x.planned(-1), last);
            due("to 40, from " + now, x.plan(0, last + 1), BEYOND);
            due("the latest stays", x.planned(-1), last);
        }
    }

    private static void plannedYear() {
        sentence("Of the latest PLAN what is done in its i-th YEAR (0 .. 3)");
        PepperYears x = made();
        x.bears(0, 100);
        x.price(0, 0, 10, 0);
        x.price(0, 2, 0, 0);
        x.terms(1, 1);
        x.garden(100, NONE);
        due("two harvests", x.plan(0, 4), 2 * (1000 - 200));
        int[] want = {2, 3, 1, 0};
        for (int i = 0; i < 4; i++) {
            due("planned(" + i + ")", x.planned(i), want[i]);
        }
        x.go(1);
        due("as it was made", x.planned(0), 2);
        x.plan(0, 1);
        due("the latest: another", x.planned(0), 2);
        due("the latest: shorter", x.planned(1), NONE);
    }

    private static void plannedHowMany() {
        sentence("how many (i -1)");
        PepperYears x = made();
        due("ahead of any: NONE", x.planned(-1), NONE);
        x.garden(1, NONE);
        x.plan(0, 20);
        due("twenty", x.planned(-1), 20);
        due("the last", x.planned(19), 0);
        due("behind it", x.planned(20), NONE);
        x.plan(0, 1);
        due("one", x.planned(-1), 1);
        due("behind it", x.planned(1), NONE);
    }

    private static void plannedNone() {
        sentence("what is done in its i-th YEAR (0 .. 3); how many (i -1). NONE");
        PepperYears x = made();
        for (int n : new int[] {-2, -1, 0, 1, 19, 20, MIN, MAX}) {
            due("ahead of any: planned(" + n + ")", x.planned(n), NONE);
        }
        x.garden(1, NONE);
        x.plan(0, 5);
        for (int n : new int[] {-2, -3, 5, 6, 19, 20, 21, MIN, MAX}) {
            due("planned(" + n + ")", x.planned(n), NONE);
        }
    }

    // ---- 20, 21

    private static void goYears() {
        sentence("YEARS go by (1 .. 20): NOW");
        PepperYears x = even();
        x.garden(100, 0);
        for (int n : new int[] {0, -1, 21, MIN, MAX}) {
            due("go(" + n + ")", x.go(n), -1);
            due("status", x.status(), -1);
        }
        due("NOW stays", x.count(0), 0);
        due("no harvest", x.count(4), 0);
        due("vines stay", x.of(0, 1), 0);
        due("least", x.go(1), 1);
        due("one harvest", x.count(4), 1);
        due("most", x.go(20), 21);
        due("twenty more", x.count(4), 21);
    }

    private static void goAboveThirtyNine() {
        sentence("-1, also if it would be above 39");
        PepperYears x = even();
        x.garden(100, 0);
        x.go(20);
        due("40", x.go(20), -1);
        due("NOW stays", x.count(0), 20);
        due("no harvest", x.count(7), 2000);
        due("vines stay", x.of(0, 1), 20);
        due("39", x.go(19), 39);
        due("harvests", x.count(7), 3900);
        due("40", x.go(1), -1);
        due("59", x.go(20), -1);
        due("NOW stays", x.count(0), 39);
        due("no harvest", x.count(7), 3900);
    }

    private static void stockOfAll() {
        sentence("of a GARDEN (NONE: of all)");
        PepperYears x = even();
        due("no GARDENS: of all", x.stock(0, NONE), 0);
        due("no GARDENS: of one", x.stock(0, 0), NONE);
        for (int g = 0; g < 12; g++) {
            x.garden(g + 1, 0);
        }
        due("no harvest yet", x.stock(0, 11), 0);
        x.go(2);
        for (int g = 0; g < 12; g++) {
            due("of " + g, x.stock(0, g), 2 * (g + 1));
        }
        due("of all", x.stock(0, NONE), 156);
        due("of another SORT", x.stock(3, NONE) + x.stock(3, 11), 0);
    }

    private static void stockNone() {
        sentence("Piculs of a SORT in STOCK, of a GARDEN (NONE: of all); NONE");
        PepperYears x = even();
        x.garden(100, 0);
        x.go(1);
        for (int n : NEVER_THERE) {
            due("garden " + n, x.stock(0, n), NONE);
            due("sort " + n, x.stock(n, 0), NONE);
            due("sort " + n + " of all", x.stock(n, NONE), NONE);
        }
        due("the next garden", x.stock(0, 1), NONE);
        due("sort -1", x.stock(-1, NONE), NONE);
        due("sort 4", x.stock(4, 0), NONE);
    }

    // ---- 22 .. 25

    private static void advanceNumber() {
        sentence("An ADVANCE: its number");
        PepperYears x = made();
        due("least", x.advance(0, 1, 0, 0, 0), 0);
        due("most", x.advance(3, 10_000, 39, 1_000_000, 39), 1);
        for (int i = 2; i < 60; i++) {
            due("its number", x.advance(1, 1, 0, 0, 0), i);
        }
    }

    private static void advanceRefused() {
        sentence("An ADVANCE: its number. -1; -5");
        int[][] wrong = {{-1, 1, 0, 0, 0}, {4, 1, 0, 0, 0}, {0, 0, 0, 0, 0}, {0, 10_001, 0, 0, 0},
            {0, 1, -1, 0, 0}, {0, 1, 40, 0, 0}, {0, 1, 0, -1, 0}, {0, 1, 0, 1_000_001, 0}, {0, 1, 0, 0, -1},
            {0, 1, 0, 0, 40}, {MIN, MIN, MIN, MIN, MIN}, {MAX, MAX, MAX, MAX, MAX}};
        PepperYears x = made();
        for (int[] w : wrong) {
            due("a wrong one", x.advance(w[0], w[1], w[2], w[3], w[4]), -1);
        }
        due("none is there", x.count(5), 0);
        for (int i = 0; i < 60; i++) {
            x.advance(0, 2, 0, 0, 0);
        }
        for (int[] w : wrong) {
            due("a wrong one, no room", x.advance(w[0], w[1], w[2], w[3], w[4]), -1);
        }
        due("no room", x.advance(0, 2, 0, 0, 0), -5);
        due("sixty are there", x.count(5), 60);
        due("owed", x.owed(0, 39), 120);
    }

    private static void bring() {
        sentence("BROUGHT for an ADVANCE now: how many piculs");
        PepperYears x = even();
        x.garden(100, 0);
        x.advance(0, 150, 39, 0, 39);
        x.advance(3, 1, 0, 0, 0);
        due("ahead of any harvest", x.bring(0), 0);
        x.go(1);
        due("all there is, though due later", x.bring(0), 100);
        due("nothing there", x.bring(0), 0);
        due("none of that SORT", x.bring(1), 0);
        due("status", x.status(), 0);
        x.go(1);
        due("all that is missing", x.bring(0), 50);
        due("nothing missing", x.bring(0), 0);
        due("in all", x.count(8), 150);
    }

    private static void bringRefused() {
        sentence("BROUGHT for an ADVANCE now: how many piculs. -2");
        PepperYears x = even();
        x.garden(100, 0);
        x.go(1);
        due("no ADVANCE at all", x.bring(0), -2);
        x.advance(0, 5, 0, 0, 0);
        for (int n : NEVER_THERE) {
            due("advance " + n, x.bring(n), -2);
        }
        due("advance -1", x.bring(-1), -2);
        due("the next one", x.bring(1), -2);
        due("nothing BROUGHT", x.count(8), 0);
        due("nothing gone", x.stock(0, 0), 100);
        due("all owed", x.owed(0, 0), 5);
    }

    private static void owed() {
        sentence("OWED of a SORT as known in a YEAR: piculs. NONE");
        PepperYears x = made();
        due("no ADVANCES", x.owed(0, 0), 0);
        x.advance(3, 10_000, 39, 0, 0);
        due("due", x.owed(3, 39), 10_000);
        due("a YEAR ahead", x.owed(3, 38), 0);
        for (int n : new int[] {-1, 40, MIN, MAX}) {
            due("known " + n, x.owed(3, n), NONE);
            due("sort " + n, x.owed(n, 39), NONE);
        }
        due("sort 4", x.owed(4, 39), NONE);
    }

    private static void ledNone() {
        sentence("LED; NONE");
        PepperYears x = made();
        due("nothing there", x.led(0, 0), NONE);
        x.advance(0, 5, 0, 0, 0);
        due("no GARDEN", x.led(0, 0), NONE);
        x.garden(5, 0);
        due("both, nothing BROUGHT", x.led(0, 0), 0);
        for (int n : NEVER_THERE) {
            due("advance " + n, x.led(n, 0), NONE);
            due("garden " + n, x.led(0, n), NONE);
        }
        due("advance -1", x.led(-1, 0), NONE);
        due("garden -1: not of all", x.led(0, -1), NONE);
        due("the next advance", x.led(1, 0), NONE);
        due("the next garden", x.led(0, 1), NONE);
        x.garden(5, 0);
        due("the next advance", x.led(1, 1), NONE);
        due("the next garden, there now", x.led(0, 1), 0);
    }

    // ---- 26, 27

    private static void countOfEach() {
        sentence("0 NOW, 1 GARDENS, 2 PRICES, 3 TITHES, 4 LOTS, 5 ADVANCES, 6 bytes of the TAPE");
        PepperYears x = even();
        for (int g = 0; g < 12; g++) {
            x.garden(100, 0);
        }
        for (int i = 1; i < 300; i++) {
            x.price(1, 0, 0, 0);
        }
        Checks.good(x, "most1;".repeat(19) + "most1", 20);
        x.go(20);
        x.go(19);
        for (int i = 0; i < 60; i++) {
            x.advance(0, 700, 0, 0, 0);
        }
        for (int i = 0; i < 10; i++) {
            x.feed(0, 0, 0, 0, 0);
        }
        x.bring(0);
        x.bring(59);
        int[] full = {39, 12, 300, 20, 468, 60, 200, 46_800, 1400};
        for (int what = 0; what < full.length; what++) {
            due("all full: count(" + what + ")", x.count(what), full[what]);
        }
    }

    private static void countNone() {
        sentence("NONE for others");
        PepperYears x = even();
        for (int n : new int[] {-1, -2, 9, 10, MIN, MAX}) {
            due("count(" + n + ")", x.count(n), NONE);
        }
    }

    private static void statusAhead() {
        sentence("or ahead of any");
        PepperYears x = made();
        due("of a new one", x.status(), 0);
        x.of(0, 0);
        x.end(-1);
        x.plan(0, 0);
        x.led(0, 0);
        x.count(-1);
        due("behind calls that can't be REFUSED", x.status(), 0);
    }

    private static void statusOfRefused() {
        sentence("What the latest call of those that can be REFUSED (with a code above) was REFUSED by");
        PepperYears x = made();
        x.bears(25, 0);
        due("-1", x.status(), -1);
        x.plant(0);
        due("-2", x.status(), -2);
        x.garden(1, 0);
        x.plant(0);
        due("-3", x.status(), -3);
        for (int g = 0; g < 12; g++) {
            x.garden(1, 0);
        }
        due("-5", x.status(), -5);
        x.feed(0, 0, 0, 0, 0);
        x.tithes();
        due("-6", x.status(), -6);
        x.bring(0);
        due("-2 again", x.status(), -2);
        due("asked twice", x.status(), -2);
    }

    private static void statusAgainZero() {
        sentence("0 if it was not");
        for (int which = 0; which < 11; which++) {
            PepperYears x = made();
            x.garden(1, 0);
            x.garden(1, NONE);
            x.advance(0, 1, 0, 0, 0);
            x.fell(7);
            due("refused", x.status(), -2);
            due("call " + which + " is not refused", refusable(x, which) < 0 ? 1 : 0, 0);
            due("call " + which + ": status", x.status(), 0);
        }
    }

    /** The calls that can be REFUSED, with numbers by which they are not. */
    private static int refusable(PepperYears x, int which) {
        switch (which) {
            case 0:
                return x.bears(0, 0);
            case 1:
                return x.ratio(0, 1);
            case 2:
                return x.price(0, 0, 0, 0);
            case 3:
                return x.terms(0, 0);
            case 4:
                return x.garden(1, 0);
            case 5:
                return x.plant(1);
            case 6:
                return x.fell(0);
            case 7:
                return x.tithes();
            case 8:
                return x.go(1);
            case 9:
                return x.advance(0, 1, 0, 0, 0);
            default:
                return x.bring(0);
        }
    }

    private static void statusOfTheOthers() {
        sentence("of those that can be REFUSED (with a code above)");
        for (int n : new int[] {-7, 0}) {
            PepperYears x = made();
            x.garden(1, 0);
            x.advance(0, 1, 0, 0, 0);
            x.fell(7);
            long[] answers = {x.at(n, 0, 0), x.of(n, 0), x.of(0, n), x.fresh(n), x.best(n, 0, 0, 0),
                x.best(0, 0, 0, n), x.end(n), x.fault(), x.tithe(n, 0, 0), x.plan(n, 1), x.planned(n),
                x.stock(n, NONE), x.owed(n, 0), x.led(n, 0), x.count(n)};
            Checks.holds("some answers", answers.length == 15);
            due("with " + n + " it stays", x.status(), -2);
            for (int i = 0; i < 11; i++) {
                due("feed", x.feed(0, 0, 0, 0, 0), i < 10 ? 20 * i + 20 : NONE);
                due("feed leaves it too", x.status(), -2);
            }
        }
    }
}
