/** Of the document's terms I, II, IV and V each sentence that names a boundary has a test of its own. */
public final class TermsBoundariesTest {
    private static final int NONE = PepperYears.NONE;
    private static final long BEYOND = -4_000_000_000_000_000_000L;
    private static final int MIN = Integer.MIN_VALUE;
    private static final int MAX = Integer.MAX_VALUE;

    public static void main(String[] args) {
        fiveHundredTwelveCalls();
        yearsPrices();
        gardensHarvest();
        plans();
        lotsAdvances();
        Checks.finish();
    }

    private static void yearsPrices() {
        years();
        nowAtFirst();
        sorts();
        ages();
        yields();
        yieldsAtFirst();
        ratios();
        ratiosAtFirst();
        pricesAtMost();
        priceOfAPicul();
        knownFrom();
        toldLast();
        yearAhead();
        nothingInYearZero();
        refusedInOrder();
    }

    private static void gardensHarvest() {
        gardensAtMost();
        vinesThatCanStand();
        bareAtFirst();
        oldestStays();
        freshIsCut();
        piculsAreCut();
        bestOfAlike();
    }

    private static void plans() {
        lessTithe();
        keepRange();
        costRange();
        yearsOfAPlan();
        planAsKnownInNow();
        asItIs();
        felledIfVinesStand();
        plantedIfBare();
        felledAndPlanted();
        olderBehindTheHarvest();
        mostTogether();
        firstOfAlikeInAYear();
        firstOfAlikeAsRows();
        harvestAsKnownInNow();
        lotOfAHarvest();
        olderByAYear();
        nowAtMost();
    }

    private static void lotsAdvances() {
        lotsInOrder();
        advancesAtMost();
        advanceRanges();
        earliestFirst();
        asMuchAsIsMissing();
        asMuchAsThereIs();
        fromEveryLot();
        owedIfKnown();
        owedIfDue();
        owedIfNotBrought();
        ledFromAGarden();
    }

    private static void sentence(String words) {
        Checks.sentence(words);
    }

    private static void due(String call, long got, long want) {
        Checks.due(call, got, want);
    }

    private static PepperYears made() {
        return new PepperYears();
    }

    /** Vines of every AGE bear as much; a picul is sold green for 1; nothing else costs. */
    private static PepperYears even(int piculs) {
        PepperYears x = made();
        for (int age = 0; age <= 24; age++) {
            x.bears(age, piculs);
        }
        x.price(0, 0, 1, 0);
        x.terms(0, 0);
        return x;
    }

    /** Vines of one AGE alone bear, 100 piculs of 100 vines; a picul is sold green for 1. */
    private static PepperYears bearingAt(int age) {
        PepperYears x = made();
        x.bears(age, 100);
        x.price(0, 0, 1, 0);
        x.terms(0, 0);
        return x;
    }

    private static void goTo(PepperYears x, int year) {
        int now = x.count(0);
        if (year - now > 20) {
            due("go(20)", x.go(20), now + 20);
            now += 20;
        }
        if (year > now) {
            due("go to " + year, x.go(year - now), year);
        }
    }

    private static void deeds(PepperYears x, String what, int... want) {
        due(what + ": how many", x.planned(-1), want.length);
        for (int y = 0; y < want.length; y++) {
            due(what + ": planned(" + y + ")", x.planned(y), want[y]);
        }
        due(what + ": behind the last", x.planned(want.length), NONE);
    }

    // ---- What it is

    private static void fiveHundredTwelveCalls() {
        sentence("An object is used for at most 512 calls");
        PepperYears x = made();
        int calls = 0;
        for (int i = 1; i <= 300; i++, calls++) {
            due("price", x.price(i % 4, i % 40, i, 0), i);
        }
        for (int i = 0; i < 12; i++, calls++) {
            due("garden", x.garden(100, i), i);
        }
        for (int i = 0; i < 60; i++, calls++) {
            due("advance", x.advance(i % 4, 10, 0, 0, 0), i);
        }
        for (int i = 0; i < 25; i++, calls++) {
            due("bears", x.bears(i, 100), 0);
        }
        for (int i = 1; i <= 10; i++, calls++) {
            due("feed", x.feed(0, 0, 0, 0, 0), 20 * i);
        }
        due("go", x.go(20), 20);
        due("go", x.go(19), 39);
        due("plan, green for 276", x.plan(0, 1), 27_600 - 100);
        due("bring", x.bring(0), 10);
        calls += 4;
        while (calls < 510) {
            due("bring again", x.bring(0), 0);
            calls++;
        }
        due("the 511th call", x.count(4), 468);
        due("the 512th call", x.count(6), 200);
    }

    // ---- I

    private static void years() {
        sentence("YEARS 0 .. 39");
        Checks.range("price's year", n -> made().price(0, n, 5, 0), 0, 39, 1, -1);
        Checks.range("price's known", n -> made().price(0, 0, 5, n), 0, 39, 1, -1);
        Checks.range("at's year", n -> even(1).at(0, n, 0), 0, 39, 1, NONE);
        Checks.range("at's known", n -> even(1).at(0, 0, n), 0, 39, 1, NONE);
        Checks.range("best's year", n -> even(1).best(8, n, 0, 2), 0, 39, 8, NONE);
        Checks.range("best's known", n -> even(1).best(8, 0, n, 2), 0, 39, 8, NONE);
        Checks.range("advance's due", n -> made().advance(0, 1, n, 0, 0), 0, 39, 0, -1);
        Checks.range("advance's known", n -> made().advance(0, 1, 0, 0, n), 0, 39, 0, -1);
        Checks.range("owed's known", n -> made().owed(0, n), 0, 39, 0, NONE);
    }

    private static void nowAtFirst() {
        sentence("NOW is 0 at first");
        due("count(0)", made().count(0), 0);
        due("a year on", made().go(1), 1);
    }

    private static void sorts() {
        sentence("SORTS 0 green, 1 red, 2 black, 3 white");
        Checks.range("ratio's sort", n -> made().ratio(n, 1), 0, 3, 0, -1);
        Checks.range("price's sort", n -> made().price(n, 0, 0, 0), 0, 3, 1, -1);
        Checks.range("at's sort", n -> made().at(n, 0, 0), 0, 3, 0, NONE);
        Checks.range("stock's sort", n -> made().stock(n, NONE), 0, 3, 0, NONE);
        Checks.range("advance's sort", n -> made().advance(n, 1, 0, 0, 0), 0, 3, 0, -1);
        Checks.range("owed's sort", n -> made().owed(n, 0), 0, 3, 0, NONE);
    }

    private static void ages() {
        sentence("YIELD by AGE 0 .. 24");
        Checks.range("bears' age", n -> made().bears(n, 1), 0, 24, 0, -1);
        Checks.range("tithe's age", n -> made().tithe(1, n, 1), 0, 24, 0, NONE);
        for (int age = 0; age <= 24; age++) {
            PepperYears x = bearingAt(age);
            for (int g = 0; g <= 2; g++) {
                int of = Math.floorMod(age + g - 1, 25);
                x.garden(100, of);
                due("vines of " + of + ", YIELD at " + age, x.fresh(g), g == 1 ? 100 : 0);
            }
        }
    }

    private static void yields() {
        sentence("piculs of fresh berries of 100 vines (0 .. 500");
        Checks.range("bears' piculs", n -> made().bears(0, n), 0, 500, 0, -1);
        PepperYears x = made();
        x.garden(100, 0);
        for (int piculs : new int[] {500, 0, 1, 499}) {
            x.bears(0, piculs);
            due("YIELD " + piculs, x.fresh(0), piculs);
        }
    }

    private static void yieldsAtFirst() {
        sentence("0 at first");
        for (int age = 0; age <= 24; age++) {
            PepperYears x = made();
            x.garden(2000, age);
            due("YIELD of " + age, x.fresh(0), 0);
        }
    }

    private static void ratios() {
        sentence("piculs of it from 100 fresh ones (1 .. 100;");
        for (int sort = 0; sort < 4; sort++) {
            int s = sort;
            Checks.range("ratio's n", n -> made().ratio(s, n), 1, 100, 0, -1);
            PepperYears x = made();
            x.price(s, 0, 1000, 0);
            for (int n : new int[] {1, 2, 99, 100}) {
                x.ratio(s, n);
                due("RATIO " + n + " of " + s, x.best(100, 0, 0, 1), n);
            }
        }
    }

    private static void ratiosAtFirst() {
        sentence("100, 60, 35, 25 at first");
        int[] first = {100, 60, 35, 25};
        for (int s = 0; s < 4; s++) {
            PepperYears x = made();
            x.price(s, 0, 1, 0);
            due("SORT " + s, x.best(100, 0, 0, 1), first[s]);
        }
    }

    private static void pricesAtMost() {
        sentence("PRICES, 300 at most");
        PepperYears x = made();
        for (int i = 1; i < 300; i++) {
            due("price " + i, x.price(0, 0, i, 0), i);
        }
        due("the 300th", x.price(3, 39, 777, 39), 300);
        due("as the 300th says", x.at(3, 39, 39), 777);
        due("the 301st", x.price(3, 39, 778, 39), -5);
        due("status", x.status(), -5);
        due("it is not told", x.at(3, 39, 39), 777);
        due("the first ones stay", x.at(0, 0, 0), 299);
        due("there are", x.count(2), 300);
    }

    private static void priceOfAPicul() {
        sentence("of a picul of a SORT in a YEAR (0 .. 1000)");
        Checks.range("price's price", n -> made().price(0, 0, n, 0), 0, 1000, 1, -1);
        PepperYears x = made();
        for (int price : new int[] {1000, 0, 1, 999}) {
            x.price(0, 0, price, 0);
            due("PRICE " + price, x.at(0, 0, 0), price);
        }
    }

    private static void knownFrom() {
        sentence("known from a YEAR on");
        for (int from : new int[] {1, 20, 39}) {
            PepperYears x = made();
            x.price(2, 0, 9, from);
            due("a year ahead of " + from, x.at(2, 0, from - 1), 0);
            due("in " + from, x.at(2, 0, from), 9);
            due("in 39", x.at(2, 0, 39), 9);
        }
        PepperYears x = made();
        x.price(2, 30, 9, 0);
        due("known long ahead", x.at(2, 30, 0), 9);
        x.price(2, 3, 4, 8);
        due("known behind its own year", x.at(2, 3, 7), 0);
        due("known behind its own year", x.at(2, 3, 8), 4);
    }

    private static void toldLast() {
        sentence("of those known by then the one told last counts");
        PepperYears x = made();
        x.price(0, 7, 10, 5);
        x.price(0, 7, 20, 2);
        due("told last, known earlier", x.at(0, 7, 5), 20);
        due("alone known", x.at(0, 7, 2), 20);
        due("neither", x.at(0, 7, 1), 0);
        x.price(0, 7, 30, 6);
        due("told last but not known", x.at(0, 7, 5), 20);
        due("told last and just known", x.at(0, 7, 6), 30);
        x.price(0, 7, 0, 0);
        due("told last: 0", x.at(0, 7, 39), 0);
    }

    private static void yearAhead() {
        sentence("without one the PRICE of the YEAR ahead");
        PepperYears x = made();
        x.price(1, 0, 3, 0);
        x.price(1, 38, 5, 0);
        due("of 0, in 37", x.at(1, 37, 0), 3);
        due("its own, in 38", x.at(1, 38, 0), 5);
        due("of 38, in 39", x.at(1, 39, 0), 5);
        x.price(1, 10, 4, 0);
        due("told later of a year ahead", x.at(1, 39, 0), 5);
        x.price(1, 39, 6, 1);
        due("its own is not known yet", x.at(1, 39, 0), 5);
        due("its own", x.at(1, 39, 1), 6);
        due("of another SORT", x.at(0, 39, 39), 0);
    }

    private static void nothingInYearZero() {
        sentence("(0 in YEAR 0)");
        PepperYears x = made();
        due("without any", x.at(0, 0, 0), 0);
        x.price(0, 1, 5, 0);
        x.price(0, 0, 6, 1);
        due("one of YEAR 1 alone", x.at(0, 0, 0), 0);
        due("one of YEAR 0", x.at(0, 0, 1), 6);
    }

    private static void refusedInOrder() {
        sentence("The first of these in that order");
        PepperYears x = made();
        due("-2 ahead of -3: nothing stands there", x.fell(0), -2);
        for (int i = 0; i < 12; i++) {
            x.garden(1, 0);
        }
        due("-1 ahead of -5", x.garden(0, 0), -1);
        due("-1 ahead of -5", x.garden(1, 25), -1);
        due("-5", x.garden(1, 0), -5);
        for (int i = 0; i < 60; i++) {
            x.advance(0, 1, 0, 0, 0);
        }
        due("-1 ahead of -5", x.advance(0, 1, 0, 0, 40), -1);
        due("-5", x.advance(0, 1, 0, 0, 0), -5);
        for (int i = 0; i < 300; i++) {
            x.price(0, 0, 0, 0);
        }
        due("-1 ahead of -5", x.price(0, 0, 0, 40), -1);
        due("-1 ahead of -5", x.price(4, 0, 0, 0), -1);
        due("-5", x.price(0, 0, 0, 0), -5);
        due("-2 with all GARDENS there", x.plant(12), -2);
        due("-3 of the last GARDEN", x.plant(11), -3);
    }

    // ---- II

    private static void gardensAtMost() {
        sentence("GARDENS 0 .. 11 (12 at most)");
        PepperYears x = made();
        for (int g = 0; g < 12; g++) {
            due("ahead of it", x.of(g, 0), NONE);
            due("garden", x.garden(g + 1, g), g);
        }
        due("the 13th", x.garden(13, 13), -5);
        due("status", x.status(), -5);
        due("none with that number", x.of(12, 0), NONE);
        for (int g = 0; g < 12; g++) {
            due("vines of " + g, x.of(g, 0), g + 1);
            due("AGE of " + g, x.of(g, 1), g);
        }
        due("there are", x.count(1), 12);
    }

    private static void vinesThatCanStand() {
        sentence("so many vines can stand there (1 .. 2000)");
        Checks.range("garden's vines", n -> made().garden(n, 0), 1, 2000, 0, -1);
        PepperYears x = made();
        x.garden(1, 0);
        x.garden(2000, 0);
        due("least", x.of(0, 0), 1);
        due("most", x.of(1, 0), 2000);
    }

    private static void bareAtFirst() {
        sentence("bare at first, or with vines of an AGE");
        Checks.range("garden's age", n -> made().garden(1, n), -1, 24, 0, -1);
        PepperYears x = even(100);
        x.garden(100, NONE);
        x.garden(100, 0);
        due("bare", x.of(0, 1), NONE);
        due("bare bears nothing", x.fresh(0), 0);
        due("of AGE 0", x.of(1, 1), 0);
        due("of AGE 0 bears", x.fresh(1), 100);
        due("bare: planted", x.plant(0), 0);
        due("of AGE 0: not bare", x.plant(1), -3);
    }

    private static void oldestStays() {
        sentence("vines of AGE a (24 stays 24)");
        PepperYears x = bearingAt(24);
        x.garden(100, 23);
        x.garden(100, 24);
        due("not yet", x.fresh(0), 0);
        x.go(1);
        due("of 23: 24", x.of(0, 1), 24);
        due("of 24: 24", x.of(1, 1), 24);
        x.go(1);
        due("24 stays", x.of(0, 1), 24);
        due("and bears", x.fresh(0) + x.fresh(1), 200);
        x.go(20);
        due("for long", x.of(1, 1), 24);
        due("harvested each year", x.stock(0, 1), 2200);
    }

    private static void freshIsCut() {
        sentence("bear vines times YIELD / 100, cut, of fresh berries");
        int[][] rows = {{1, 99, 0}, {1, 100, 1}, {99, 1, 0}, {100, 1, 1}, {101, 1, 1}, {199, 1, 1},
            {200, 1, 2}, {1, 199, 1}, {1999, 499, 9975}, {2000, 500, 10_000}, {2000, 0, 0}};
        for (int[] row : rows) {
            PepperYears x = made();
            x.bears(5, row[1]);
            x.garden(row[0], 5);
            due(row[0] + " vines, YIELD " + row[1], x.fresh(0), row[2]);
        }
    }

    private static void piculsAreCut() {
        sentence("they make fresh times RATIO / 100, cut, piculs");
        int[][] rows = {{1, 99, 0}, {1, 100, 1}, {99, 1, 0}, {100, 1, 1}, {199, 1, 1}, {200, 1, 2},
            {99_999, 99, 98_999}, {100_000, 100, 100_000}, {0, 100, 0}};
        for (int[] row : rows) {
            PepperYears x = made();
            x.price(0, 0, 1, 0);
            x.ratio(0, row[1]);
            due(row[0] + " fresh, RATIO " + row[1], x.best(row[0], 0, 0, 1), row[2]);
        }
        PepperYears x = made();
        x.price(3, 0, 1000, 0);
        due("brings what the cut piculs do", x.best(7, 0, 0, 2), 1000);
    }

    private static void bestOfAlike() {
        sentence("(of alike ones the first)");
        PepperYears x = made();
        due("all bring nothing", x.best(100, 0, 0, 0), 0);
        due("no berries", x.best(0, 0, 0, 0), 0);
        x.price(1, 0, 10, 0);
        x.price(3, 0, 24, 0);
        due("red and white alike", x.best(100, 0, 0, 0), 1);
        x.price(0, 0, 6, 0);
        due("green, red and white alike", x.best(100, 0, 0, 0), 0);
        x.price(3, 0, 25, 0);
        due("white brings more", x.best(100, 0, 0, 0), 3);
        due("so few: nothing of white, green and red alike", x.best(1, 0, 0, 0), 0);
        x.price(2, 1, 100, 0);
        x.price(3, 1, 140, 0);
        due("black and white alike", x.best(100, 1, 0, 0), 2);
    }

    // ---- IV

    private static void lessTithe() {
        sentence("what its BEST SORT brings, less TITHE");
        PepperYears x = even(100);
        // Dear to plant, so that young vines, which pay less, are no way out.
        x.terms(0, 100);
        x.garden(100, 4);
        Checks.good(x, "part 1 of 10;vines 100 each 89 from 4", 2);
        due("one more than TITHE", x.plan(0, 1), 1);
        deeds(x, "one more", 0);
        Checks.good(x, "part 1 of 10;vines 100 each 90 from 5", 2);
        due("below the AGE", x.plan(0, 1), 90);
        Checks.good(x, "part 1 of 10;vines 100 each 90 from 4", 2);
        due("just TITHE", x.plan(0, 1), 0);
        deeds(x, "alike: as it is", 0);
        Checks.good(x, "part 1 of 10;vines 100 each 91 from 4", 2);
        due("one less than TITHE", x.plan(0, 1), 0);
        deeds(x, "felled", 1);
        Checks.good(x, "part 1 of 10;free 100", 2);
        due("not below free", x.plan(0, 1), 90);
        Checks.good(x, "part 1 of 10;free 101", 2);
        due("below free", x.plan(0, 1), 100);
    }

    private static void keepRange() {
        sentence("less KEEP (0 .. 100; 1 at first) for each vine");
        Checks.range("terms' keep", n -> made().terms(n, 5), 0, 100, 0, -1);
        PepperYears x = made();
        x.bears(1, 500);
        x.price(0, 0, 1000, 0);
        x.garden(2000, 1);
        due("1 at first", x.plan(0, 1), 10_000_000 - 2000);
        x.terms(0, 5);
        due("0", x.plan(0, 1), 10_000_000);
        x.terms(100, 5);
        due("100", x.plan(0, 1), 10_000_000 - 200_000);
    }

    private static void costRange() {
        sentence("for COST (0 .. 100; 5 at first) a vine");
        Checks.range("terms' cost", n -> made().terms(1, n), 0, 100, 0, -1);
        int[][] costs = {{NONE, 5}, {0, 0}, {100, 100}};
        for (int[] row : costs) {
            PepperYears x = made();
            x.bears(0, 500);
            x.price(0, 0, 1000, 0);
            x.garden(2000, NONE);
            if (row[0] != NONE) {
                x.terms(1, row[0]);
            }
            due("in a PLAN", x.plan(0, 1), 10_000_000 - 2000 - 2000 * row[1]);
            due("of plant", x.plant(0), 2000 * row[1]);
        }
    }

    private static void yearsOfAPlan() {
        sentence("PLAN for n YEARS (1 .. 20) from NOW on");
        PepperYears x = even(100);
        x.garden(100, 0);
        for (int n : new int[] {0, -1, 21, MIN, MAX}) {
            due("n " + n, x.plan(0, n), BEYOND);
        }
        for (int n : new int[] {1, 2, 19, 20}) {
            due("n " + n, x.plan(0, n), 100 * n);
            due("how many", x.planned(-1), n);
        }
        x.price(0, 20, 1000, 0);
        due("no year behind the last", x.plan(0, 20), 2000);
        x.go(1);
        due("from NOW on", x.plan(0, 20), 1900 + 100_000);
    }

    private static void planAsKnownInNow() {
        sentence("from NOW on, as known in NOW");
        PepperYears x = even(100);
        x.garden(100, 0);
        x.price(0, 1, 5, 1);
        x.price(0, 2, 7, 2);
        due("in 0: neither is known", x.plan(0, 3), 100 + 100 + 100);
        x.go(1);
        due("in 1: one is just known", x.plan(0, 2), 500 + 500);
        x.go(1);
        due("in 2: the other too", x.plan(0, 1), 700);
    }

    private static void asItIs() {
        sentence("0 as it is");
        PepperYears x = even(100);
        x.garden(100, 24);
        x.garden(100, NONE);
        x.terms(0, 100);
        due("vines stay", x.plan(0, 3), 300);
        deeds(x, "vines stay", 0, 0, 0);
        due("bare stays", x.plan(1, 3), 0);
        deeds(x, "bare stays", 0, 0, 0);
        Checks.good(x, "part 1 of 1;vines 1 each 10000", 2);
        due("bare pays nothing", x.plan(1, 20), 0);
        x.terms(100, 0);
        due("bare costs nothing to keep", x.plan(1, 20), 0);
    }

    private static void felledIfVinesStand() {
        sentence("1 felled (if vines stand: bare then)");
        PepperYears x = bearingAt(3);
        x.terms(1, 100);
        x.garden(50, 4);
        x.garden(50, NONE);
        due("a loss each year", x.plan(0, 1), 0);
        deeds(x, "felled", 1);
        due("a loss each year", x.plan(0, 20), 0);
        due("felled", x.planned(0), 1);
        for (int y = 1; y < 20; y++) {
            due("bare then: not felled again", x.planned(y), 0);
        }
        x.plan(1, 1);
        deeds(x, "where none stand", 0);
        due("the GARDEN itself stays", x.of(0, 1), 4);
    }

    private static void plantedIfBare() {
        sentence("2 planted (if bare: all its vines, of AGE 0, for COST");
        PepperYears x = bearingAt(0);
        x.price(0, 0, 1000, 0);
        x.terms(0, 1);
        x.garden(2000, NONE);
        due("of AGE 0 in that YEAR", x.plan(0, 1), 2_000_000 - 2000);
        deeds(x, "planted", 2);
        due("then vines stand", x.plan(0, 3), 3 * (2_000_000 - 2000));
        deeds(x, "then vines stand", 2, 3, 3);
        due("the GARDEN itself stays bare", x.of(0, 1), NONE);
    }

    private static void felledAndPlanted() {
        sentence("3 felled and planted (if vines stand: COST likewise)");
        PepperYears x = bearingAt(0);
        x.price(0, 0, 101, 0);
        x.terms(0, 100);
        x.garden(100, 24);
        x.garden(100, 0);
        due("one more than COST", x.plan(0, 1), 100);
        deeds(x, "renewed", 3);
        due("young ones bear as they are", x.plan(1, 2), 10_100 + 100);
        deeds(x, "young ones", 0, 3);
        x.price(0, 0, 100, 0);
        due("just COST", x.plan(0, 1), 0);
        deeds(x, "as it is", 0);
    }

    private static void olderBehindTheHarvest() {
        sentence("Behind the harvest vines are one AGE older");
        PepperYears x = bearingAt(24);
        x.terms(0, 100);
        x.garden(100, 23);
        x.garden(100, 24);
        due("of 23", x.plan(0, 3), 200);
        due("of 24, which stays", x.plan(1, 3), 300);
        PepperYears y = bearingAt(19);
        y.garden(100, NONE);
        due("too few YEARS", y.plan(0, 19), 0);
        due("planted at once", y.plan(0, 20), 100);
        due("planted at once", y.planned(0), 2);
        due("and kept", y.planned(1) + y.planned(19), 0);
    }

    private static void mostTogether() {
        sentence("The PLAN whose GAINS, less COSTS, are most together");
        PepperYears x = bearingAt(2);
        x.terms(1, 1);
        x.price(0, 0, 6, 0);
        x.garden(100, NONE);
        due("600 less 300 and 100", x.plan(0, 3), 200);
        deeds(x, "a loss first, then more", 2, 0, 0);
        x.price(0, 0, 5, 0);
        due("500 less 300 and 100", x.plan(0, 3), 100);
        x.price(0, 0, 4, 0);
        due("400 less 300 and 100: alike", x.plan(0, 3), 0);
        deeds(x, "alike: as it is", 0, 0, 0);
        x.garden(100, 2);
        due("the old ones still bear", x.plan(1, 1), 300);
        due("and are felled then", x.plan(1, 2), 300);
        deeds(x, "and are felled then", 0, 1);
    }

    private static void firstOfAlikeInAYear() {
        sentence("of those alike the first");
        PepperYears x = made();
        x.terms(0, 0);
        x.garden(100, 5);
        x.garden(100, NONE);
        due("0, 1, 3 alike", x.plan(0, 1), 0);
        deeds(x, "0 ahead of 1 and 3", 0);
        due("0, 2 alike", x.plan(1, 1), 0);
        deeds(x, "0 ahead of 2", 0);
        x.terms(1, 0);
        x.bears(0, 100);
        x.price(0, 0, 1, 0);
        due("1, 3 alike, 0 a loss", x.plan(0, 1), 0);
        deeds(x, "1 ahead of 3", 1);
        x.bears(5, 101);
        due("0 alone", x.plan(0, 1), 1);
        deeds(x, "0 alone", 0);
        x.bears(0, 101);
        due("0, 3 alike", x.plan(0, 1), 1);
        deeds(x, "0 ahead of 3", 0);
    }

    private static void firstOfAlikeAsRows() {
        sentence("of those alike the first, as rows");
        PepperYears x = bearingAt(2);
        x.terms(0, 1);
        x.price(0, 0, 2, 0);
        x.garden(100, NONE);
        x.garden(100, 9);
        due("one YEAR to plant in", x.plan(0, 3), 100);
        deeds(x, "one YEAR to plant in", 2, 0, 0);
        x.plan(0, 4);
        deeds(x, "planted in 0 or in 1", 0, 2, 0, 0);
        x.plan(0, 5);
        deeds(x, "planted in 0, 1 or 2", 0, 0, 2, 0, 0);
        due("two harvests", x.plan(0, 6), 200);
        deeds(x, "two harvests", 2, 0, 0, 3, 0, 0);
        x.plan(1, 4);
        deeds(x, "renewed in 0 or in 1", 0, 3, 0, 0);
    }

    private static void harvestAsKnownInNow() {
        sentence("its piculs of the BEST SORT as known in NOW lie in its STOCK");
        PepperYears x = even(100);
        x.garden(100, 0);
        x.price(1, 0, 10, 1);
        x.price(2, 2, 100, 0);
        x.price(3, 3, 1000, 4);
        x.go(5);
        due("0: green, red is known from 1 on", x.stock(0, 0), 100);
        due("1: red, black has its PRICE from 2 on", x.stock(1, 0), 60);
        due("2 and 3: black, white is known from 4 on", x.stock(2, 0), 70);
        due("4: white", x.stock(3, 0), 25);
    }

    private static void lotOfAHarvest() {
        sentence("lie in its STOCK (a LOT)");
        PepperYears x = even(1);
        x.garden(100, 0);
        x.garden(99, 0);
        x.garden(2000, NONE);
        x.go(1);
        due("one picul: a LOT; none: none", x.count(4), 1);
        due("in its own STOCK", x.stock(0, 0), 1);
        due("in no other", x.stock(0, 1) + x.stock(0, 2), 0);
        x.ratio(0, 99);
        x.go(1);
        due("berries, but no whole picul", x.count(4), 1);
        due("harvested", x.count(7), 1);
    }

    private static void olderByAYear() {
        sentence("vines are one AGE older; NOW is one more");
        PepperYears x = made();
        x.garden(1, 0);
        x.garden(1, 23);
        x.garden(1, NONE);
        due("NOW", x.go(1), 1);
        due("0: 1", x.of(0, 1), 1);
        due("23: 24", x.of(1, 1), 24);
        due("bare stays bare", x.of(2, 1), NONE);
        x.plant(2);
        due("NOW", x.go(20), 21);
        due("1: 21", x.of(0, 1), 21);
        due("planted in 1: 20", x.of(2, 1), 20);
    }

    private static void nowAtMost() {
        sentence("NOW is one more (39 at most)");
        PepperYears x = even(100);
        x.garden(100, 0);
        goTo(x, 38);
        due("two more", x.go(2), -1);
        due("NOW stays", x.count(0), 38);
        due("no harvest", x.count(4), 38);
        due("one more", x.go(1), 39);
        due("the harvest of 38", x.count(4), 39);
        due("no more", x.go(1), -1);
        due("no harvest of 39", x.count(4), 39);
        due("NOW stays", x.count(0), 39);
    }

    // ---- V

    private static void lotsInOrder() {
        sentence("LOTS in order as they were harvested (GARDENS in order in a YEAR)");
        PepperYears x = even(100);
        x.garden(100, 0);
        x.garden(200, 0);
        x.garden(300, 0);
        x.go(2);
        int[] sizes = {100, 200, 300, 100, 200, 300};
        for (int i = 0; i < sizes.length; i++) {
            x.advance(0, sizes[i], 0, 0, 0);
            due("bring", x.bring(i), sizes[i]);
            for (int g = 0; g < 3; g++) {
                due("LOT " + i + " is of " + i % 3, x.led(i, g), g == i % 3 ? sizes[i] : 0);
            }
        }
        due("all", x.stock(0, NONE), 0);
    }

    private static void advancesAtMost() {
        sentence("ADVANCES, 60 at most");
        PepperYears x = made();
        for (int i = 0; i < 60; i++) {
            due("advance " + i, x.advance(1, i + 1, 0, 0, 0), i);
        }
        due("the 61st", x.advance(1, 1, 0, 0, 0), -5);
        due("status", x.status(), -5);
        due("there are", x.count(5), 60);
        due("owed", x.owed(1, 0), 1830);
        due("bring of the last", x.bring(59), 0);
        due("bring of none", x.bring(60), -2);
    }

    private static void advanceRanges() {
        sentence("a ship paid (0 .. 1,000,000)");
        Checks.range("advance's paid", n -> made().advance(0, 1, 0, n, 0), 0, 1_000_000, 0, -1);
        sentence("for so many piculs (1 .. 10,000)");
        Checks.range("advance's piculs", n -> made().advance(0, n, 0, 0, 0), 1, 10_000, 0, -1);
        PepperYears x = even(500);
        x.garden(2000, 0);
        x.go(2);
        x.advance(0, 1, 0, 0, 0);
        x.advance(0, 10_000, 0, 0, 0);
        due("least", x.bring(0), 1);
        due("most", x.bring(1), 10_000);
        due("left", x.stock(0, 0), 9999);
    }

    private static void earliestFirst() {
        sentence("from LOTS of its SORT, the earliest first");
        PepperYears x = even(100);
        x.garden(10, 0);
        x.garden(20, 0);
        x.price(1, 1, 1000, 0);
        x.price(1, 2, 0, 0);
        x.go(3);
        due("green of 0 and 2", x.stock(0, NONE), 60);
        due("red of 1", x.stock(1, NONE), 18);
        x.advance(0, 31, 0, 0, 0);
        due("all of YEAR 0, one of YEAR 2", x.bring(0), 31);
        due("from the first GARDEN", x.led(0, 0), 11);
        due("from the second", x.led(0, 1), 20);
        due("red stays", x.stock(1, NONE), 18);
        x.advance(1, 7, 0, 0, 0);
        x.bring(1);
        due("red from the first", x.led(1, 0), 6);
        due("red from the second", x.led(1, 1), 1);
    }

    private static void asMuchAsIsMissing() {
        sentence("as much as is missing");
        PepperYears x = even(100);
        x.garden(100, 0);
        x.go(1);
        x.advance(0, 99, 0, 0, 0);
        due("all but one", x.bring(0), 99);
        due("one is left", x.stock(0, 0), 1);
        due("nothing is missing", x.bring(0), 0);
        due("one is left still", x.stock(0, 0), 1);
        due("status", x.status(), 0);
    }

    private static void asMuchAsThereIs() {
        sentence("as much as is missing and there is");
        PepperYears x = even(100);
        x.garden(100, 0);
        x.advance(0, 101, 0, 0, 0);
        due("ahead of any harvest", x.bring(0), 0);
        x.go(1);
        due("one too few", x.bring(0), 100);
        due("nothing is left", x.stock(0, 0), 0);
        due("nothing there", x.bring(0), 0);
        x.go(1);
        due("the one that is missing", x.bring(0), 1);
        due("LED", x.led(0, 0), 101);
        due("left", x.stock(0, 0), 99);
    }

    private static void fromEveryLot() {
        sentence("as much as is missing and there is");
        PepperYears x = even(1);
        for (int g = 0; g < 12; g++) {
            x.garden(100, 0);
        }
        goTo(x, 39);
        due("as many LOTS as can be", x.count(4), 468);
        due("all in STOCK", x.stock(0, NONE), 468);
        x.advance(0, 467, 0, 0, 0);
        x.advance(0, 10_000, 0, 0, 0);
        due("all but the last", x.bring(0), 467);
        due("the last", x.bring(1), 1);
        due("of the last GARDEN", x.led(1, 11), 1);
        due("none", x.bring(1), 0);
        due("none in STOCK", x.stock(0, NONE), 0);
    }

    private static void owedIfKnown() {
        sentence("of ADVANCES known by then");
        for (int known : new int[] {1, 39}) {
            PepperYears x = made();
            x.advance(2, 5, 0, 0, known);
            due("a year ahead of " + known, x.owed(2, known - 1), 0);
            due("in " + known, x.owed(2, known), 5);
        }
    }

    private static void owedIfDue() {
        sentence("and due by k");
        for (int due : new int[] {1, 39}) {
            PepperYears x = made();
            x.advance(2, 5, due, 0, 0);
            due("a year ahead of " + due, x.owed(2, due - 1), 0);
            due("in " + due, x.owed(2, due), 5);
        }
        PepperYears x = made();
        x.advance(2, 5, 0, 0, 0);
        due("both in 0", x.owed(2, 0), 5);
        due("of another SORT", x.owed(1, 39) + x.owed(3, 39), 0);
    }

    private static void owedIfNotBrought() {
        sentence("what is not BROUGHT");
        PepperYears x = even(100);
        x.garden(100, 0);
        x.advance(0, 101, 0, 0, 0);
        x.go(1);
        due("nothing BROUGHT", x.owed(0, 0), 101);
        x.bring(0);
        due("all but one", x.owed(0, 0), 1);
        x.go(1);
        x.bring(0);
        due("all", x.owed(0, 39), 0);
        PepperYears y = made();
        for (int i = 0; i < 60; i++) {
            y.advance(3, 10_000, 39, 0, 39);
        }
        due("most", y.owed(3, 39), 600_000);
        due("a year ahead", y.owed(3, 38), 0);
    }

    private static void ledFromAGarden() {
        sentence("of an ADVANCE how many of its piculs came from a GARDEN");
        PepperYears x = even(100);
        x.garden(3, 0);
        x.garden(4, 0);
        x.go(1);
        x.advance(0, 3, 0, 0, 0);
        x.advance(0, 4, 0, 0, 0);
        due("nothing yet", x.led(0, 0) + x.led(1, 1), 0);
        x.bring(0);
        x.bring(1);
        due("just the first's", x.led(0, 0), 3);
        due("none of the second", x.led(0, 1), 0);
        due("none of the first", x.led(1, 0), 0);
        due("just the second's", x.led(1, 1), 4);
        x.fell(0);
        x.go(20);
        due("it stays, felled", x.led(0, 0), 3);
    }
}
