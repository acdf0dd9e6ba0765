/** Each promise of the document by its number: ordinary inputs, edges, wrong inputs. */
public final class PromisesTest {
    private static final int NONE = PepperYears.NONE;
    private static final long BEYOND = -4_000_000_000_000_000_000L;

    public static void main(String[] args) {
        newObject();
        bears();
        ratio();
        price();
        at();
        terms();
        garden();
        of();
        plantAndFell();
        fresh();
        best();
        feed();
        end();
        tithes();
        titheFaults();
        fault();
        tithe();
        tithesInOrder();
        plan();
        planByGains();
        planOfThoseAlike();
        planAsKnown();
        planned();
        go();
        goOldest();
        stock();
        advance();
        bring();
        owed();
        led();
        count();
        status();
        statusOfEachCall();
        Checks.finish();
    }

    private static void due(String call, long got, long want) {
        Checks.due(call, got, want);
    }

    /** 100 vines of any age bear as many fresh piculs as told; a picul is sold green for 1. */
    private static PepperYears simple(int yieldOfOne) {
        PepperYears x = new PepperYears();
        x.bears(1, yieldOfOne);
        x.price(0, 0, 1, 0);
        x.terms(0, 0);
        return x;
    }

    // Promise 1
    private static void newObject() {
        PepperYears x = new PepperYears();
        due("NONE", PepperYears.NONE, -1);
        for (int what = 0; what <= 8; what++) {
            due("1: count(" + what + ")", x.count(what), 0);
        }
        due("1: status()", x.status(), 0);
        due("1: fault()", x.fault(), NONE);
        due("1: planned(-1)", x.planned(-1), NONE);
        due("1: planned(0)", x.planned(0), NONE);
        due("1: of(0, 0)", x.of(0, 0), NONE);
        due("1: tithe", x.tithe(2000, 24, 100_000_000), 0);
        for (int s = 0; s < 4; s++) {
            due("1: at", x.at(s, 39, 39), 0);
            due("1: stock", x.stock(s, NONE), 0);
            due("1: owed", x.owed(s, 39), 0);
        }
        PepperYears y = new PepperYears();
        x.garden(5, 5);
        x.price(0, 0, 7, 0);
        due("1: objects share nothing", y.count(1) + y.count(2) + y.at(0, 0, 0), 0);
    }

    // Promise 2
    private static void bears() {
        PepperYears x = new PepperYears();
        due("2: garden", x.garden(100, 0), 0);
        due("2: garden", x.garden(100, 24), 1);
        due("2: fresh at first", x.fresh(0) + x.fresh(1), 0);
        due("2: bears(0, 500)", x.bears(0, 500), 0);
        due("2: bears(24, 7)", x.bears(24, 7), 0);
        due("2: fresh(0)", x.fresh(0), 500);
        due("2: fresh(1)", x.fresh(1), 7);
        due("2: bears(-1, 1)", x.bears(-1, 1), -1);
        due("2: bears(25, 1)", x.bears(25, 1), -1);
        due("2: bears(0, -1)", x.bears(0, -1), -1);
        due("2: bears(0, 501)", x.bears(0, 501), -1);
        due("2: bears(min, max)", x.bears(Integer.MIN_VALUE, Integer.MAX_VALUE), -1);
        due("2: a refused one changes nothing", x.fresh(0), 500);
        due("2: bears(0, 0)", x.bears(0, 0), 0);
        due("2: fresh(0) again", x.fresh(0), 0);
    }

    // Promise 3
    private static void ratio() {
        int[] first = {100, 60, 35, 25};
        for (int s = 0; s < 4; s++) {
            PepperYears x = new PepperYears();
            x.price(s, 0, 1, 0);
            due("3: RATIO at first", x.best(1000, 0, 0, 1), first[s] * 10);
            due("3: ratio(s, 1)", x.ratio(s, 1), 0);
            due("3: best", x.best(1000, 0, 0, 1), 10);
            due("3: ratio(s, 100)", x.ratio(s, 100), 0);
            due("3: best", x.best(1000, 0, 0, 1), 1000);
            due("3: ratio(s, 0)", x.ratio(s, 0), -1);
            due("3: ratio(s, 101)", x.ratio(s, 101), -1);
            due("3: best", x.best(1000, 0, 0, 1), 1000);
        }
        PepperYears x = new PepperYears();
        due("3: ratio(-1, 1)", x.ratio(-1, 1), -1);
        due("3: ratio(4, 1)", x.ratio(4, 1), -1);
    }

    // Promise 4
    private static void price() {
        PepperYears x = new PepperYears();
        due("4: price", x.price(0, 0, 0, 0), 1);
        due("4: price", x.price(3, 39, 1000, 39), 2);
        due("4: sort -1", x.price(-1, 0, 0, 0), -1);
        due("4: sort 4", x.price(4, 0, 0, 0), -1);
        due("4: year -1", x.price(0, -1, 0, 0), -1);
        due("4: year 40", x.price(0, 40, 0, 0), -1);
        due("4: price -1", x.price(0, 0, -1, 0), -1);
        due("4: price 1001", x.price(0, 0, 1001, 0), -1);
        due("4: known -1", x.price(0, 0, 0, -1), -1);
        due("4: known 40", x.price(0, 0, 0, 40), -1);
        due("4: count(2)", x.count(2), 2);
        for (int i = 3; i <= 300; i++) {
            due("4: price", x.price(1, i % 40, i, 0), i);
        }
        due("4: the 301st", x.price(1, 0, 5, 0), -5);
        due("4: a number that can't be goes ahead", x.price(1, 0, 1001, 0), -1);
        due("4: count(2)", x.count(2), 300);
        due("4: told last", x.at(1, 20, 0), 300);
        due("4: told last", x.at(1, 0, 0), 280);
    }

    // Promise 5
    private static void at() {
        PepperYears x = new PepperYears();
        x.price(1, 5, 50, 3);
        x.price(1, 5, 60, 2);
        x.price(1, 2, 20, 0);
        x.price(1, 5, 70, 9);
        due("5: known later", x.at(1, 5, 1), 20);
        due("5: the year ahead, back to 0", x.at(1, 1, 39), 0);
        due("5: known by 2", x.at(1, 5, 2), 60);
        due("5: told last, not known last", x.at(1, 5, 3), 60);
        due("5: known by 8", x.at(1, 39, 8), 60);
        due("5: known by 9", x.at(1, 39, 9), 70);
        due("5: a year with its own", x.at(1, 2, 39), 20);
        due("5: years between", x.at(1, 4, 39), 20);
        due("5: another sort", x.at(2, 39, 39), 0);
        x.price(1, 5, 0, 0);
        due("5: a price of 0 counts", x.at(1, 6, 39), 0);
        due("5: sort -1", x.at(-1, 0, 0), NONE);
        due("5: sort 4", x.at(4, 0, 0), NONE);
        due("5: year -1", x.at(0, -1, 0), NONE);
        due("5: year 40", x.at(0, 40, 0), NONE);
        due("5: known -1", x.at(0, 0, -1), NONE);
        due("5: known 40", x.at(0, 0, 40), NONE);
    }

    // Promise 6
    private static void terms() {
        PepperYears x = new PepperYears();
        x.garden(10, NONE);
        due("6: COST at first", x.plant(0), 50);
        x.bears(0, 500);
        x.price(0, 0, 1, 0);
        due("6: KEEP at first", x.plan(0, 1), 50 - 10);
        due("6: terms(2, 100)", x.terms(2, 100), 0);
        due("6: KEEP", x.plan(0, 1), 50 - 20);
        x.fell(0);
        due("6: COST", x.plant(0), 1000);
        due("6: keep -1", x.terms(-1, 0), -1);
        due("6: keep 101", x.terms(101, 0), -1);
        due("6: cost -1", x.terms(0, -1), -1);
        due("6: cost 101", x.terms(0, 101), -1);
        due("6: KEEP stays", x.plan(0, 1), 50 - 20);
        x.fell(0);
        due("6: COST stays", x.plant(0), 1000);
        due("6: terms(100, 0)", x.terms(100, 0), 0);
        x.fell(0);
        due("6: COST 0", x.plant(0), 0);
    }

    // Promise 7
    private static void garden() {
        PepperYears x = new PepperYears();
        due("7: vines 0", x.garden(0, 0), -1);
        due("7: vines 2001", x.garden(2001, 0), -1);
        due("7: age -2", x.garden(1, -2), -1);
        due("7: age 25", x.garden(1, 25), -1);
        due("7: first", x.garden(1, NONE), 0);
        due("7: second", x.garden(2000, 24), 1);
        for (int g = 2; g < 12; g++) {
            due("7: garden", x.garden(g, g), g);
        }
        due("7: the 13th", x.garden(1, 0), -5);
        due("7: a number that can't be goes ahead", x.garden(0, 0), -1);
        due("7: count(1)", x.count(1), 12);
        due("7: bare", x.of(0, 1), NONE);
        due("7: of the oldest", x.of(1, 1), 24);
        due("7: vines", x.of(11, 0), 11);
    }

    // Promise 8
    private static void of() {
        PepperYears x = new PepperYears();
        x.garden(77, 3);
        x.garden(78, NONE);
        due("8: vines", x.of(0, 0), 77);
        due("8: age", x.of(0, 1), 3);
        due("8: vines that can stand there", x.of(1, 0), 78);
        due("8: bare", x.of(1, 1), NONE);
        due("8: what 2", x.of(0, 2), NONE);
        due("8: what -1", x.of(0, -1), NONE);
        due("8: garden 2", x.of(2, 0), NONE);
        due("8: garden -1", x.of(-1, 0), NONE);
        due("8: garden max", x.of(Integer.MAX_VALUE, 1), NONE);
    }

    // Promises 9 and 10
    private static void plantAndFell() {
        PepperYears x = new PepperYears();
        due("9: no garden", x.plant(0), -2);
        due("10: no garden", x.fell(0), -2);
        x.garden(2000, 7);
        due("9: -1", x.plant(-1), -2);
        due("10: -1", x.fell(-1), -2);
        due("9: 1", x.plant(1), -2);
        due("10: 1", x.fell(1), -2);
        due("9: where vines stand", x.plant(0), -3);
        due("9: it stays", x.of(0, 1), 7);
        due("10: felled", x.fell(0), 0);
        due("10: bare", x.of(0, 1), NONE);
        due("10: room stays", x.of(0, 0), 2000);
        due("10: where none do", x.fell(0), -3);
        due("9: COST", x.plant(0), 10_000);
        due("9: age 0", x.of(0, 1), 0);
        due("9: twice", x.plant(0), -3);
        x.terms(0, 100);
        x.fell(0);
        due("9: most COST", x.plant(0), 200_000);
    }

    // Promise 11
    private static void fresh() {
        PepperYears x = new PepperYears();
        x.bears(3, 333);
        x.garden(99, 3);
        x.garden(99, NONE);
        x.garden(2000, 4);
        due("11: cut", x.fresh(0), 329);
        due("11: bare", x.fresh(1), 0);
        due("11: yield 0", x.fresh(2), 0);
        due("11: -1", x.fresh(-1), NONE);
        due("11: 3", x.fresh(3), NONE);
        x.bears(4, 500);
        due("11: most", x.fresh(2), 10_000);
        x.go(1);
        due("11: a year older", x.fresh(0), 495);
    }

    // Promise 12
    private static void best() {
        PepperYears x = new PepperYears();
        due("12: alike, the first", x.best(10, 0, 0, 0), 0);
        due("12: its piculs", x.best(10, 0, 0, 1), 10);
        due("12: brings nothing", x.best(10, 0, 0, 2), 0);
        x.price(1, 0, 10, 0);
        x.price(3, 0, 24, 0);
        due("12: alike but cut", x.best(99, 0, 0, 0), 1);
        due("12: piculs, cut", x.best(99, 0, 0, 1), 59);
        due("12: brings", x.best(99, 0, 0, 2), 590);
        due("12: alike", x.best(100, 0, 0, 0), 1);
        x.price(3, 2, 25, 1);
        due("12: the last sort", x.best(100, 2, 1, 0), 3);
        due("12: not yet known", x.best(100, 2, 0, 0), 1);
        due("12: a year ahead of it", x.best(100, 1, 1, 0), 1);
        due("12: none", x.best(0, 2, 1, 0), 0);
        due("12: few", x.best(3, 2, 1, 1), 1);
        x.price(0, 0, 1000, 0);
        due("12: most", x.best(100_000, 0, 0, 2), 100_000_000);
        due("12: fresh -1", x.best(-1, 0, 0, 0), NONE);
        due("12: fresh 100001", x.best(100_001, 0, 0, 0), NONE);
        due("12: year -1", x.best(1, -1, 0, 0), NONE);
        due("12: year 40", x.best(1, 40, 0, 0), NONE);
        due("12: known -1", x.best(1, 0, -1, 0), NONE);
        due("12: known 40", x.best(1, 0, 40, 0), NONE);
        due("12: what -1", x.best(1, 0, 0, -1), NONE);
        due("12: what 3", x.best(1, 0, 0, 3), NONE);
    }

    // Promise 13
    private static void feed() {
        PepperYears x = new PepperYears();
        for (int i = 1; i <= 10; i++) {
            due("13: feed", x.feed(0, 0, 0, 0, 0), 20 * i);
        }
        due("13: full", x.feed(0, 0, 0, 0, 0), NONE);
        due("13: count(6)", x.count(6), 200);
        due("13: end(181)", x.end(181), 181);
        due("13: would be 201", x.feed(0, 0, 0, 0, 0), NONE);
        due("13: count(6)", x.count(6), 181);
        due("13: end(180)", x.end(180), 180);
        due("13: just room", x.feed(0, 0, 0, 0, 0), 200);
        // "free" 9 blanks: the highest byte first.
        x.end(0);
        due("13: order", x.feed(0x66726565, 0x20202020, 0x39202020, 0x3b6d6f73, 0x74203820), 20);
        due("13: as read", x.tithes(), 2);
        due("13: in effect", x.tithe(8, 0, 100), 0);
        // Bytes above 127 are bytes like others: a fault at their place.
        x.feed(0x66726565, 0x2031ff80, -1, -1, -1);
        due("13: high bytes", x.tithes(), -6);
        due("13: their place", x.fault(), 6);
    }

    // Promise 14
    private static void end() {
        PepperYears x = new PepperYears();
        due("14: end(0)", x.end(0), 0);
        due("14: end(1) of none", x.end(1), NONE);
        due("14: end(-1)", x.end(-1), NONE);
        x.feed(0x6d6f7374, 0x20313233, 0x34353637, 0, 0);
        due("14: end(21)", x.end(21), NONE);
        due("14: end(20)", x.end(20), 20);
        due("14: end(8)", x.end(8), 8);
        due("14: no way back", x.end(9), NONE);
        due("14: end(min)", x.end(Integer.MIN_VALUE), NONE);
        due("14: it stays", x.count(6), 8);
        due("14: the first bytes", x.tithes(), 1);
        Checks.good(x, "part 1 of 1;most 123", 2);
        due("14: most 123", x.tithe(1, 1, 1000), 123);
    }

    // Promise 15
    private static void tithes() {
        PepperYears x = new PepperYears();
        due("15: empty", x.tithes(), 0);
        due("15: empty, no fault", x.fault(), NONE);
        Checks.good(x, "   ", 0);
        Checks.good(x, "part 1 of 10", 1);
        Checks.good(x, "part1of10;vines5each3from24;free0;most10000", 4);
        Checks.good(x, "  part  0  of  1  ;  free  007  ", 2);
        Checks.good(x, "part 10000 of 10000", 1);
        Checks.good(x, "vines 10000 each 10000 from 0", 1);
        Checks.good(x, "vines 1 each 0", 1);
        Checks.good(x, "most 00000000000000000000000000000000000000000000000000000000000000012", 1);
        Checks.good(x, "most1;".repeat(19) + "most1", 20);
        due("15: TITHES stay when the next are wrong", x.tithe(1, 1, 0), 0);
        Checks.good(x, "vines 1 each 3", 1);
        due("15: in effect", x.tithe(7, 0, 0), 21);
        Checks.bad(x, "vines 1 each 4;", 15);
        due("15: they stay", x.tithe(7, 0, 0), 21);
        Checks.good(x, "", 0);
        due("15: none now", x.tithe(7, 0, 0), 0);
        Checks.good(x, "free 1" + " ".repeat(194), 1);
    }

    private static void titheFaults() {
        PepperYears x = new PepperYears();
        Checks.bad(x, "tree", 0);
        Checks.bad(x, "  partx 1 of 2", 2);
        Checks.bad(x, "Part 1 of 2", 0);
        Checks.bad(x, "partz 1 of 2", 0);
        Checks.bad(x, "part 1a of 2", 6);
        Checks.bad(x, "part 1 of 2{", 11);
        Checks.bad(x, "par t 1 of 2", 0);
        Checks.bad(x, ";", 0);
        Checks.bad(x, "7", 0);
        Checks.bad(x, "part", 4);
        Checks.bad(x, "part  ", 6);
        Checks.bad(x, "part of", 5);
        Checks.bad(x, "part 10001 of 10001", 5);
        Checks.bad(x, "part 99999999999999999999 of 1", 5);
        Checks.bad(x, "part 4294967297 of 4294967297", 5);
        Checks.bad(x, "part 1 off 2", 7);
        Checks.bad(x, "part 1 of", 9);
        Checks.bad(x, "part 1 of 10001", 10);
        Checks.bad(x, "part 3 of 2", 10);
        Checks.bad(x, "part 0 of 0", 10);
        Checks.bad(x, "part 1 of -2", 10);
        Checks.bad(x, "part 1 of 2 3", 12);
        Checks.bad(x, "part 1 of 2 from 3", 12);
        Checks.bad(x, "part 1 of 2 part 1 of 2", 12);
        Checks.bad(x, "part 1 of 2;;", 12);
        Checks.bad(x, "part 1 of 2;  ", 14);
        Checks.bad(x, "part 1 of 2\n", 11);
        Checks.bad(x, "part\t1 of 2", 4);
        Checks.bad(x, "vines 0 each 1", 6);
        Checks.bad(x, "vines 1 of 1", 8);
        Checks.bad(x, "vines 1 each", 12);
        Checks.bad(x, "vines 1 each 10001", 13);
        Checks.bad(x, "vines 1 each 1 from", 19);
        Checks.bad(x, "vines 1 each 1 from 25", 20);
        Checks.bad(x, "vines 1 each 1 from x", 20);
        Checks.bad(x, "vines 1 each 1 to 2", 15);
        Checks.bad(x, "vines 1 each 1 from 2 from 3", 22);
        Checks.bad(x, "free", 4);
        Checks.bad(x, "free 10001", 5);
        Checks.bad(x, "free 1,5", 6);
        Checks.bad(x, "most most", 5);
        Checks.bad(x, "most 1 2", 7);
        Checks.bad(x, "most1;".repeat(20) + " most1", 121);
        Checks.bad(x, "most1;".repeat(20), 120);
        Checks.bad(x, "most1;".repeat(20) + "x", 120);
        Checks.bad(x, "free 1" + " ".repeat(193) + "x", 199);
        Checks.bad(x, "9".repeat(200), 0);
        Checks.bad(x, "most " + "9".repeat(195), 5);
    }

    // Promise 16
    private static void fault() {
        PepperYears x = new PepperYears();
        due("16: ahead of any", x.fault(), NONE);
        Checks.bad(x, "free", 4);
        due("16: it stays", x.fault(), 4);
        x.feed(0, 0, 0, 0, 0);
        due("16: feed leaves it", x.fault(), 4);
        x.end(0);
        Checks.bad(x, "x", 0);
        due("16: the latest", x.fault(), 0);
        Checks.good(x, "free 1", 1);
        due("16: NONE without", x.fault(), NONE);
    }

    // Promise 17
    private static void tithe() {
        PepperYears x = new PepperYears();
        Checks.good(x, "part 1 of 3", 1);
        due("17: cut", x.tithe(1, 0, 8), 2);
        due("17: most", x.tithe(2000, 24, 100_000_000), 33_333_333);
        due("17: least", x.tithe(0, 0, 0), 0);
        due("17: no vines", x.tithe(0, 0, 9), 3);
        due("17: vines -1", x.tithe(-1, 0, 0), NONE);
        due("17: vines 2001", x.tithe(2001, 0, 0), NONE);
        due("17: age -1", x.tithe(0, -1, 0), NONE);
        due("17: age 25", x.tithe(0, 25, 0), NONE);
        due("17: m -1", x.tithe(0, 0, -1), NONE);
        due("17: m 100000001", x.tithe(0, 0, 100_000_001), NONE);
        Checks.good(x, "part 10000 of 10000;".repeat(9) + "part 1 of 1", 10);
        due("17: beyond an int", x.tithe(1, 0, 100_000_000), 1_000_000_000);
        Checks.good(x, "part1of1;".repeat(19) + "part9999of10000", 20);
        due("17: twenty of them", x.tithe(1, 0, 100_000_000), 1_999_990_000);
        Checks.good(x, "vines 1 each 10000;".repeat(9) + "vines 1 each 10000", 10);
        due("17: of vines", x.tithe(2000, 0, 0), 200_000_000);
    }

    private static void tithesInOrder() {
        PepperYears x = new PepperYears();
        Checks.good(x, "vines 7 each 3 from 4", 1);
        due("17: below g", x.tithe(700, 3, 0), 0);
        due("17: at g", x.tithe(700, 4, 0), 300);
        due("17: whole ones", x.tithe(13, 24, 0), 3);
        due("17: too few", x.tithe(6, 24, 0), 0);
        Checks.good(x, "most 5;part 1 of 2", 2);
        due("17: most as it is then", x.tithe(1, 1, 100), 50);
        Checks.good(x, "part 1 of 2;most 5;part 1 of 4", 3);
        due("17: more behind most", x.tithe(1, 1, 100), 30);
        Checks.good(x, "part 1 of 2;most 0", 2);
        due("17: most 0", x.tithe(1, 1, 100), 0);
        Checks.good(x, "free 10;part 1 of 2;free 5;part 1 of 2", 4);
        due("17: the last free", x.tithe(5, 1, 100), 100);
        due("17: below it", x.tithe(4, 1, 100), 0);
        Checks.good(x, "part 1 of 2;free 5;free 10", 3);
        due("17: below the last free", x.tithe(9, 1, 100), 0);
        due("17: not below it", x.tithe(10, 1, 100), 50);
    }

    // Promise 18
    private static void plan() {
        PepperYears x = simple(100);
        x.garden(100, 1);
        x.garden(100, NONE);
        due("18: n 0", x.plan(0, 0), BEYOND);
        due("18: n -1", x.plan(0, -1), BEYOND);
        due("18: n 21", x.plan(0, 21), BEYOND);
        due("18: n max", x.plan(0, Integer.MAX_VALUE), BEYOND);
        due("18: garden -1", x.plan(-1, 1), BEYOND);
        due("18: garden 2", x.plan(2, 1), BEYOND);
        due("18: 20 years, every second", x.plan(0, 20), 1000);
        due("18: of bare ground", x.plan(1, 20), 1000);
        due("18: state stays", x.of(0, 1) + x.of(1, 1), 0);
        due("18: stocks stay", x.count(4) + x.count(0), 0);
        x.go(20);
        due("18: to 39", x.plan(0, 20), 1000);
        x.go(1);
        due("18: beyond 39", x.plan(0, 20), BEYOND);
        due("18: to 39 again", x.plan(0, 19), 900);
    }

    private static void planByGains() {
        PepperYears x = simple(100);
        x.terms(2, 1);
        x.garden(100, 1);
        due("18: loss all years: felled", x.plan(0, 3), 0);
        due("18: felled", x.planned(0), 1);
        due("18: bare then", x.planned(1), 0);
        x.price(0, 0, 10, 0);
        due("18: KEEP and COST", x.plan(0, 3), 800 - 200 - 100 + 800);
        due("18: deed", x.planned(1), 3);
        Checks.good(x, "part 1 of 4;vines 100 each 40", 2);
        due("18: TITHE", x.plan(0, 1), 1000 - 290 - 200);
        due("18: TITHE of young vines too", x.plan(0, 3), 510 - 240 - 100 + 510);
        due("18: planted all the same", x.planned(1), 3);
        Checks.good(x, "part 1 of 2;vines 100 each 200", 2);
        due("18: not worth planting", x.plan(0, 3), 100);
        due("18: felled behind the first", x.planned(1), 1);
        Checks.good(x, "part 1 of 2;free 101", 2);
        due("18: free", x.plan(0, 1), 800);
    }

    private static void planOfThoseAlike() {
        PepperYears x = new PepperYears();
        x.terms(0, 0);
        x.garden(1, 24);
        x.garden(1, NONE);
        due("18: nothing ever", x.plan(0, 4), 0);
        for (int y = 0; y < 4; y++) {
            due("18: alike: as it is", x.planned(y), 0);
        }
        x.plan(1, 4);
        for (int y = 0; y < 4; y++) {
            due("18: alike: stays bare", x.planned(y), 0);
        }
        x.bears(0, 500);
        x.bears(24, 500);
        x.garden(100, 24);
        x.price(3, 0, 4, 0);
        due("18: old ones bear as much", x.plan(2, 2), 1000);
        due("18: alike: as it is", x.planned(0) + x.planned(1), 0);
        x.price(3, 1, 8, 0);
        x.garden(100, 23);
        due("18: of age 23", x.plan(3, 3), 500 + 1000 + 1000);
        due("18: renewed", x.planned(0), 3);
        due("18: and again", x.planned(1), 3);
        x.garden(100, NONE);
        due("18: as late as can be", x.plan(4, 1), 500);
        due("18: planted", x.planned(0), 2);
    }

    private static void planAsKnown() {
        PepperYears x = new PepperYears();
        x.terms(0, 0);
        for (int age = 0; age <= 24; age++) {
            x.bears(age, 100);
        }
        x.garden(100, 5);
        x.price(0, 0, 1, 0);
        x.price(0, 1, 5, 1);
        x.price(0, 2, 7, 0);
        due("18: as known in 0", x.plan(0, 3), 100 + 100 + 700);
        x.go(1);
        due("18: as known in 1", x.plan(0, 2), 500 + 700);
        due("18: sold green in 0", x.stock(0, 0), 100);
    }

    // Promise 19
    private static void planned() {
        PepperYears x = simple(100);
        due("19: none yet", x.planned(-1), NONE);
        due("19: none yet", x.planned(0), NONE);
        due("19: none yet", x.planned(-2), NONE);
        x.garden(100, 1);
        x.garden(100, NONE);
        x.plan(2, 5);
        due("19: none yet behind a GARDEN that can't be", x.planned(-1), NONE);
        x.plan(0, 0);
        due("19: none yet behind YEARS that can't be", x.planned(-1), NONE);
        due("19: none yet behind YEARS that can't be", x.planned(0), NONE);
        x.plan(0, 5);
        due("19: how many", x.planned(-1), 5);
        int[] want = {0, 0, 0, 3, 0};
        x.price(0, 1, 0, 0);
        x.price(0, 3, 1, 0);
        due("19: what it brings", x.plan(0, 5), 200);
        for (int i = 0; i < 5; i++) {
            due("19: planned(" + i + ")", x.planned(i), want[i]);
        }
        due("19: beyond", x.planned(5), NONE);
        due("19: -2", x.planned(-2), NONE);
        due("19: min", x.planned(Integer.MIN_VALUE), NONE);
        due("19: max", x.planned(Integer.MAX_VALUE), NONE);
        x.plan(0, 21);
        due("19: kept behind one that can't be", x.planned(-1), 5);
        x.go(1);
        x.fell(0);
        due("19: kept behind other calls", x.planned(3), 3);
        x.plan(1, 2);
        due("19: the latest", x.planned(-1), 2);
        due("19: of fewer years", x.planned(2), NONE);
    }

    // Promise 20
    private static void go() {
        PepperYears x = new PepperYears();
        due("20: 0", x.go(0), -1);
        due("20: -1", x.go(-1), -1);
        due("20: 21", x.go(21), -1);
        due("20: max", x.go(Integer.MAX_VALUE), -1);
        due("20: NOW stays", x.count(0), 0);
        due("20: 20", x.go(20), 20);
        due("20: above 39", x.go(20), -1);
        due("20: NOW stays", x.count(0), 20);
        due("20: to 39", x.go(19), 39);
        due("20: beyond", x.go(1), -1);
        due("20: no lots", x.count(4), 0);
    }

    private static void goOldest() {
        PepperYears x = new PepperYears();
        for (int age = 0; age <= 24; age++) {
            x.bears(age, 100 + age);
        }
        x.garden(100, 22);
        x.garden(100, NONE);
        x.garden(2000, 0);
        x.price(2, 0, 1000, 1);
        due("20: a year", x.go(1), 1);
        due("20: as known in NOW: green", x.stock(0, 0), 122);
        due("20: older", x.of(0, 1), 23);
        due("20: bare", x.of(1, 1), NONE);
        due("20: older", x.of(2, 1), 1);
        due("20: years", x.go(3), 4);
        due("20: 24 stays", x.of(0, 1), 24);
        due("20: black", x.stock(2, 0), 43 + 43 + 43);
        due("20: of 1, 2, 3", x.stock(2, 2), 707 + 714 + 721);
        due("20: lots of each", x.count(4), 8);
        due("20: harvested", x.count(7), 122 + 2000 + 129 + 707 + 714 + 721);
    }

    // Promise 21
    private static void stock() {
        PepperYears x = simple(100);
        x.garden(100, 1);
        x.garden(200, 1);
        x.garden(300, NONE);
        x.go(1);
        due("21: of one", x.stock(0, 0), 100);
        due("21: of another", x.stock(0, 1), 200);
        due("21: of a bare one", x.stock(0, 2), 0);
        due("21: of all", x.stock(0, NONE), 300);
        due("21: of another sort", x.stock(3, NONE), 0);
        due("21: sort -1", x.stock(-1, 0), NONE);
        due("21: sort 4", x.stock(4, NONE), NONE);
        due("21: garden 3", x.stock(0, 3), NONE);
        due("21: garden -2", x.stock(0, -2), NONE);
        x.advance(0, 150, 0, 0, 0);
        x.bring(0);
        due("21: less what is brought", x.stock(0, 0), 0);
        due("21: less what is brought", x.stock(0, 1), 150);
        due("21: less what is brought", x.stock(0, NONE), 150);
        x.fell(1);
        due("21: felled, the stock stays", x.stock(0, 1), 150);
    }

    // Promise 22
    private static void advance() {
        PepperYears x = new PepperYears();
        due("22: sort -1", x.advance(-1, 1, 0, 0, 0), -1);
        due("22: sort 4", x.advance(4, 1, 0, 0, 0), -1);
        due("22: piculs 0", x.advance(0, 0, 0, 0, 0), -1);
        due("22: piculs 10001", x.advance(0, 10_001, 0, 0, 0), -1);
        due("22: due -1", x.advance(0, 1, -1, 0, 0), -1);
        due("22: due 40", x.advance(0, 1, 40, 0, 0), -1);
        due("22: paid -1", x.advance(0, 1, 0, -1, 0), -1);
        due("22: paid 1000001", x.advance(0, 1, 0, 1_000_001, 0), -1);
        due("22: known -1", x.advance(0, 1, 0, 0, -1), -1);
        due("22: known 40", x.advance(0, 1, 0, 0, 40), -1);
        due("22: count(5)", x.count(5), 0);
        due("22: first", x.advance(3, 10_000, 39, 1_000_000, 39), 0);
        for (int a = 1; a < 60; a++) {
            due("22: advance", x.advance(0, 1, 0, 0, 0), a);
        }
        due("22: the 61st", x.advance(0, 1, 0, 0, 0), -5);
        due("22: a number that can't be goes ahead", x.advance(0, 0, 0, 0, 0), -1);
        due("22: count(5)", x.count(5), 60);
        due("22: owed", x.owed(3, 39), 10_000);
        due("22: owed", x.owed(0, 0), 59);
    }

    // Promise 23
    private static void bring() {
        PepperYears x = simple(100);
        due("23: none", x.bring(0), -2);
        x.bears(2, 50);
        x.garden(100, 1);
        x.garden(200, 1);
        x.go(2);
        due("23: lots", x.count(4), 4);
        x.advance(0, 350, 39, 0, 39);
        x.advance(1, 10, 0, 0, 0);
        x.advance(0, 150, 0, 0, 0);
        due("23: -1", x.bring(-1), -2);
        due("23: 3", x.bring(3), -2);
        due("23: of a sort that is not there", x.bring(1), 0);
        due("23: as much as is missing", x.bring(0), 350);
        due("23: the earliest first", x.led(0, 0), 150);
        due("23: the earliest first", x.led(0, 1), 200);
        due("23: nothing missing", x.bring(0), 0);
        due("23: as much as there is", x.bring(2), 100);
        due("23: from the last lot", x.led(2, 1), 100);
        due("23: used up", x.stock(0, NONE), 0);
        due("23: nothing there", x.bring(2), 0);
        x.fell(0);
        x.plant(0);
        x.go(2);
        due("23: and later the rest", x.bring(2), 50);
        due("23: from another garden", x.led(2, 0), 50);
        due("23: in all", x.count(8), 500);
        due("23: lots stay counted", x.count(4), 5);
    }

    // Promise 24
    private static void owed() {
        PepperYears x = simple(100);
        x.garden(100, 1);
        x.advance(0, 1000, 5, 0, 3);
        x.advance(0, 300, 2, 9, 7);
        x.advance(1, 20, 0, 0, 0);
        due("24: ahead of both", x.owed(0, 4), 0);
        due("24: due and known", x.owed(0, 5), 1000);
        due("24: due, not yet known", x.owed(0, 6), 1000);
        due("24: both", x.owed(0, 7), 1300);
        due("24: both", x.owed(0, 39), 1300);
        due("24: of a sort", x.owed(1, 0), 20);
        due("24: of none", x.owed(2, 39), 0);
        x.go(1);
        x.bring(0);
        due("24: less what is brought", x.owed(0, 5), 900);
        due("24: sort -1", x.owed(-1, 0), NONE);
        due("24: sort 4", x.owed(4, 0), NONE);
        due("24: known -1", x.owed(0, -1), NONE);
        due("24: known 40", x.owed(0, 40), NONE);
    }

    // Promise 25
    private static void led() {
        PepperYears x = simple(100);
        for (int g = 0; g < 12; g++) {
            x.garden(100, 1);
        }
        x.go(1);
        for (int a = 0; a < 60; a++) {
            x.advance(0, 20, 0, 0, 0);
            x.bring(a);
        }
        for (int a = 0; a < 60; a += 7) {
            for (int g = 0; g < 12; g++) {
                due("25: led(" + a + ", " + g + ")", x.led(a, g), g == a / 5 ? 20 : 0);
            }
        }
        due("25: the last", x.led(59, 11), 20);
        due("25: advance -1", x.led(-1, 0), NONE);
        due("25: advance 60", x.led(60, 0), NONE);
        due("25: garden -1", x.led(0, -1), NONE);
        due("25: garden 12", x.led(0, 12), NONE);
        PepperYears y = new PepperYears();
        y.advance(0, 1, 0, 0, 0);
        due("25: no garden", y.led(0, 0), NONE);
        y.garden(1, 0);
        due("25: nothing", y.led(0, 0), 0);
    }

    // Promise 26
    private static void count() {
        PepperYears x = simple(100);
        x.garden(100, 1);
        x.garden(150, 1);
        x.price(3, 4, 0, 0);
        Checks.good(x, "free 1;free 2;free 3", 3);
        x.go(2);
        x.advance(0, 120, 0, 0, 0);
        x.bring(0);
        x.advance(0, 1, 0, 0, 0);
        x.advance(1, 1, 0, 0, 0);
        x.advance(2, 1, 0, 0, 0);
        x.feed(1, 2, 3, 4, 5);
        x.end(17);
        int[] want = {2, 2, 2, 3, 2, 4, 17, 250, 120};
        for (int what = 0; what < want.length; what++) {
            due("26: count(" + what + ")", x.count(what), want[what]);
        }
        due("26: count(-1)", x.count(-1), NONE);
        due("26: count(9)", x.count(9), NONE);
        due("26: count(min)", x.count(Integer.MIN_VALUE), NONE);
        PepperYears y = new PepperYears();
        for (int g = 0; g < 12; g++) {
            y.garden(2000, 0);
        }
        for (int age = 0; age <= 24; age++) {
            y.bears(age, 500);
        }
        y.go(20);
        y.go(19);
        due("26: most lots", y.count(4), 468);
        due("26: most piculs", y.count(7), 4_680_000);
        due("26: all in stock", y.stock(0, NONE), 4_680_000);
        PepperYears z = new PepperYears();
        z.bears(0, 1);
        z.garden(100, 0);
        z.go(1);
        due("26: one picul, a lot", z.count(4), 1);
        z.advance(0, 1, 0, 0, 0);
        due("26: one picul, brought", z.bring(0), 1);
        due("26: a lot that is used up", z.count(4), 1);
        z = new PepperYears();
        z.ratio(0, 1);
        z.bears(0, 1);
        z.garden(100, 0);
        z.go(1);
        due("26: no piculs, no lot", z.count(4), 0);
    }

    // Promise 27
    private static void status() {
        PepperYears x = new PepperYears();
        due("27: ahead of any", x.status(), 0);
        x.fell(0);
        due("27: -2", x.status(), -2);
        due("27: asked again", x.status(), -2);
        x.at(9, 9, 9);
        x.of(9, 9);
        x.fresh(9);
        x.best(-1, 0, 0, 0);
        x.end(9);
        x.fault();
        x.tithe(-1, 0, 0);
        x.plan(0, 0);
        x.planned(9);
        x.stock(9, 9);
        x.owed(9, 9);
        x.led(9, 9);
        x.count(9);
        due("27: those that can't be REFUSED leave it", x.status(), -2);
        x.at(0, 0, 0);
        x.best(0, 0, 0, 0);
        x.feed(0, 0, 0, 0, 0);
        x.end(0);
        x.tithe(0, 0, 0);
        x.stock(0, NONE);
        x.owed(0, 0);
        x.count(0);
        due("27: nor do they when they answer", x.status(), -2);
        x.garden(1, 1);
        due("27: 0 again", x.status(), 0);
        x.bears(99, 99);
        x.of(0, 0);
        x.fresh(0);
        x.plan(0, 1);
        x.planned(0);
        due("27: -1 stays", x.status(), -1);
    }

    private static void statusOfEachCall() {
        PepperYears x = new PepperYears();
        x.garden(1, 1);
        x.advance(0, 1, 0, 0, 0);
        int[] codes = {
            x.bears(-1, 0), x.status(), x.bears(0, 0), x.status(),
            x.ratio(-1, 0), x.status(), x.ratio(0, 1), x.status(),
            x.price(-1, 0, 0, 0), x.status(), x.price(0, 0, 0, 0) - 1, x.status(),
            x.terms(-1, 0), x.status(), x.terms(0, 0), x.status(),
            x.garden(0, 0), x.status(), x.garden(1, 0) - 1, x.status(),
            x.plant(0), x.status(), x.fell(0), x.status(),
            x.fell(0), x.status(), x.plant(0), x.status(),
            x.go(0), x.status(), x.go(1) - 1, x.status(),
            x.advance(0, 0, 0, 0, 0), x.status(), x.advance(0, 1, 0, 0, 0) - 1, x.status(),
            x.bring(9), x.status(), x.bring(0) * 0, x.status(),
        };
        int[] want = {-1, -1, -1, -1, -1, -3, -3, -1, -1, -2};
        for (int i = 0; i < want.length; i++) {
            due("27: refused, call " + i, codes[4 * i], want[i]);
            due("27: status, call " + i, codes[4 * i + 1], want[i]);
            due("27: not refused, call " + i, codes[4 * i + 2], 0);
            due("27: status then, call " + i, codes[4 * i + 3], 0);
        }
        for (int i = x.count(1); i < 12; i++) {
            x.garden(1, 1);
        }
        x.garden(1, 1);
        due("27: -5", x.status(), -5);
    }
}
