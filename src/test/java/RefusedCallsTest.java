import java.util.ArrayList;
import java.util.List;
import java.util.function.ToLongFunction;

/**
 * Every call that is refused, or answers NONE or BEYOND, leaves all as it was; and no call throws or
 * fails to end, whatever numbers it is given and in whatever state.
 */
public final class RefusedCallsTest {
    private static final int NONE = PepperYears.NONE;
    private static final long BEYOND = -4_000_000_000_000_000_000L;
    private static final int MIN = Integer.MIN_VALUE;
    private static final int MAX = Integer.MAX_VALUE;
    private static final int[] EXTREMES = {MIN, MIN + 1, -201, -2, -1, 0, 1, 3, 4, 11, 12, 19, 20, 21, 24, 25,
        39, 40, 59, 60, 100, 200, 500, 1000, 2000, 10_000, 100_000, 1_000_000, 100_000_000, MAX - 1, MAX};
    private static final int KINDS_OF_CALL = 26;

    public static void main(String[] args) {
        refusedByNumber();
        refusedByNoSuch();
        refusedAsItCannotBe();
        refusedAsNoRoom();
        refusedByText();
        none();
        beyond();
        extremes(false);
        extremes(true);
        Checks.finish();
    }

    /** A call of an object with something of everything; its answer and status; all else stays. */
    private static void leaves(String call, ToLongFunction<PepperYears> ask, long answer, int status) {
        List<Long> untouched = allOf(rich());
        PepperYears x = rich();
        Checks.due(call, ask.applyAsLong(x), answer);
        Checks.due(call + ": status", x.status(), status);
        List<Long> now = allOf(x);
        for (int i = 0; i < untouched.size(); i++) {
            Checks.due(call + ": state, answer " + i, now.get(i), untouched.get(i));
        }
    }

    private static void refused(String call, ToLongFunction<PepperYears> ask, int code) {
        Checks.due(call + ", ahead of it", rich().status(), 0);
        leaves(call, ask, code, code);
    }

    private static PepperYears rich() {
        PepperYears x = new PepperYears();
        for (int age = 0; age <= 24; age++) {
            x.bears(age, 7 * age);
        }
        x.price(0, 0, 3, 0);
        x.price(2, 1, 30, 1);
        x.price(3, 5, 90, 0);
        x.terms(2, 3);
        x.garden(150, 4);
        x.garden(300, 24);
        x.garden(80, NONE);
        x.go(2);
        x.advance(0, 60, 1, 10, 0);
        x.advance(2, 500, 3, 10, 2);
        x.bring(0);
        Checks.bad(x, "free 1 free", 7);
        Checks.write(x, "part 1 of 7;vines 9 each 2 from 3");
        x.tithes();
        Checks.write(x, "free 44");
        x.plan(0, 6);
        return x;
    }

    /** What can be asked of an object; what changes it comes last. */
    private static List<Long> allOf(PepperYears x) {
        List<Long> all = new ArrayList<>();
        for (int what = 0; what <= 8; what++) {
            all.add((long) x.count(what));
        }
        all.add((long) x.fault());
        for (int i = -1; i <= 20; i++) {
            all.add((long) x.planned(i));
        }
        addGardens(x, all);
        addPrices(x, all);
        for (int vines = 1; vines <= 2000; vines += 333) {
            all.add(x.tithe(vines, 2, 1000));
            all.add(x.tithe(vines, 3, 1000));
        }
        for (int g = 0; g < 4; g++) {
            all.add(x.plan(g, 12));
        }
        all.add((long) x.tithes());
        all.add((long) x.fault());
        all.add(x.tithe(44, 0, 7000) + x.tithe(43, 0, 7000));
        return all;
    }

    private static void addGardens(PepperYears x, List<Long> all) {
        for (int g = 0; g < 4; g++) {
            all.add((long) x.of(g, 0));
            all.add((long) x.of(g, 1));
            all.add((long) x.fresh(g));
            all.add((long) x.led(0, g));
            all.add((long) x.led(1, g));
            for (int s = 0; s < 4; s++) {
                all.add((long) x.stock(s, g));
            }
        }
    }

    private static void addPrices(PepperYears x, List<Long> all) {
        for (int s = 0; s < 4; s++) {
            for (int year = 0; year <= 6; year++) {
                all.add((long) x.at(s, year, 0));
                all.add((long) x.at(s, year, 39));
            }
            all.add((long) x.owed(s, 1));
            all.add((long) x.owed(s, 39));
        }
        for (int year = 0; year <= 6; year++) {
            all.add((long) x.best(10_000, year, 39, 0));
            all.add((long) x.best(10_000, year, 39, 2));
        }
    }

    private static void refusedByNumber() {
        Checks.sentence("-1 a number that can't be");
        for (int n : new int[] {-2, MIN, MAX}) {
            refused("bears, age", x -> x.bears(n, 9), -1);
            refused("bears, piculs", x -> x.bears(6, n), -1);
            refused("ratio, sort", x -> x.ratio(n, 9), -1);
            refused("ratio, n", x -> x.ratio(0, n), -1);
            refused("price, sort", x -> x.price(n, 1, 9, 0), -1);
            refused("price, year", x -> x.price(0, n, 9, 0), -1);
            refused("price, price", x -> x.price(0, 1, n, 0), -1);
            refused("price, known", x -> x.price(0, 1, 9, n), -1);
            refused("terms, keep", x -> x.terms(n, 9), -1);
            refused("terms, cost", x -> x.terms(9, n), -1);
            refused("garden, vines", x -> x.garden(n, 9), -1);
            refused("garden, age", x -> x.garden(9, n), -1);
            refused("go", x -> x.go(n), -1);
            refused("advance, sort", x -> x.advance(n, 9, 0, 0, 0), -1);
            refused("advance, piculs", x -> x.advance(0, n, 0, 0, 0), -1);
            refused("advance, due", x -> x.advance(0, 9, n, 0, 0), -1);
            refused("advance, paid", x -> x.advance(0, 9, 0, n, 0), -1);
            refused("advance, known", x -> x.advance(0, 9, 0, 0, n), -1);
        }
    }

    private static void refusedByNoSuch() {
        Checks.sentence("-2 there is no such GARDEN, ADVANCE");
        for (int n : new int[] {-1, 3, MIN, MAX}) {
            refused("plant", x -> x.plant(n), -2);
            refused("fell", x -> x.fell(n), -2);
        }
        for (int n : new int[] {-1, 2, MIN, MAX}) {
            refused("bring", x -> x.bring(n), -2);
        }
    }

    private static void refusedAsItCannotBe() {
        Checks.sentence("-3 it can't be (planted where vines stand, felled where none do)");
        refused("plant", x -> x.plant(0), -3);
        refused("plant", x -> x.plant(1), -3);
        refused("fell", x -> x.fell(2), -3);
    }

    private static void refusedAsNoRoom() {
        Checks.sentence("-5 no room");
        PepperYears x = new PepperYears();
        for (int i = 0; i < 12; i++) {
            x.garden(100 + i, i);
        }
        Checks.due("GARDENS", x.garden(1, 1), -5);
        Checks.due("the last stays", x.of(11, 0), 111);
        Checks.due("the first stays", x.of(0, 0), 100);
        for (int i = 0; i < 60; i++) {
            x.advance(1, 2, 0, 0, 0);
        }
        Checks.due("ADVANCES", x.advance(1, 1000, 0, 0, 0), -5);
        Checks.due("they stay", x.owed(1, 0), 120);
        for (int i = 0; i < 300; i++) {
            x.price(3, 0, i, 0);
        }
        Checks.due("PRICES", x.price(3, 0, 7, 0), -5);
        Checks.due("they stay", x.at(3, 0, 0), 299);
    }

    private static void refusedByText() {
        Checks.sentence("-6 a text that can't be");
        PepperYears x = rich();
        Checks.due("cut", x.end(4), 4);
        long before = x.tithe(99, 5, 700);
        Checks.due("refused", x.tithes(), -6);
        Checks.due("status", x.status(), -6);
        Checks.due("TITHES stay", x.tithe(99, 5, 700), before);
        Checks.due("how many stay", x.count(3), 2);
        Checks.due("the TAPE is empty", x.count(6), 0);
        Checks.due("FAULT", x.fault(), 4);
    }

    private static void none() {
        Checks.sentence("There is none");
        for (int n : new int[] {-7, MIN, MAX}) {
            leaves("at", x -> x.at(n, 0, 0), NONE, 0);
            leaves("of", x -> x.of(n, 0), NONE, 0);
            leaves("of, what", x -> x.of(0, n), NONE, 0);
            leaves("fresh", x -> x.fresh(n), NONE, 0);
            leaves("best", x -> x.best(n, 0, 0, 0), NONE, 0);
            leaves("best, what", x -> x.best(5, 0, 0, n), NONE, 0);
            leaves("end", x -> x.end(n), NONE, 0);
            leaves("tithe", x -> x.tithe(n, 0, 0), NONE, 0);
            leaves("planned", x -> x.planned(n), NONE, 0);
            leaves("stock", x -> x.stock(0, n), NONE, 0);
            leaves("owed", x -> x.owed(0, n), NONE, 0);
            leaves("led", x -> x.led(0, n), NONE, 0);
            leaves("count", x -> x.count(n), NONE, 0);
        }
    }

    private static void beyond() {
        Checks.sentence("BEYOND (-4,000,000,000,000,000,000) for a number, GARDEN that can't be");
        for (int n : new int[] {-1, 0, 21, MIN, MAX}) {
            leaves("plan, n", x -> x.plan(0, n), BEYOND, 0);
        }
        for (int n : new int[] {-1, 3, MIN, MAX}) {
            leaves("plan, garden", x -> x.plan(n, 1), BEYOND, 0);
        }
    }

    /** Calls by the thousand with extreme numbers: a call that throws ends the test. */
    private static void extremes(boolean full) {
        Checks.sentence("LANGUAGE.md 7: No call may ever throw or fail to end");
        PepperYears x = full ? rich() : new PepperYears();
        int calls = 0;
        for (int i = 0; i < EXTREMES.length; i++) {
            for (int j = 0; j < EXTREMES.length; j++) {
                int a = EXTREMES[i];
                int b = EXTREMES[j];
                int c = EXTREMES[(i + 2 * j) % EXTREMES.length];
                int d = EXTREMES[(3 * i + j) % EXTREMES.length];
                for (int which = 0; which < KINDS_OF_CALL; which++) {
                    call(x, which, new int[] {a, b, c, d, a ^ d});
                    call(x, which, new int[] {j % 4, a, b, c, d});
                    call(x, which, new int[] {j % 4, j % 40, a, b, i % 40});
                    calls += 3;
                }
            }
        }
        Checks.holds("all calls were made", calls == 3 * KINDS_OF_CALL * EXTREMES.length * EXTREMES.length);
        Checks.due("NOW", x.count(0), 39);
    }

    private static long call(PepperYears x, int which, int[] n) {
        return which < 13 ? callOfGardens(x, which, n) : callOfYears(x, which, n);
    }

    private static long callOfGardens(PepperYears x, int which, int[] n) {
        switch (which) {
            case 0:
                return x.bears(n[0], n[1]);
            case 1:
                return x.ratio(n[0], n[1]);
            case 2:
                return x.price(n[0], n[1], n[2], n[3]);
            case 3:
                return x.at(n[0], n[1], n[2]);
            case 4:
                return x.terms(n[0], n[1]);
            case 5:
                return x.garden(n[0], n[1]);
            case 6:
                return x.of(n[0], n[1]);
            case 7:
                return x.plant(n[0]);
            case 8:
                return x.fell(n[0]);
            case 9:
                return x.fresh(n[0]);
            case 10:
                return x.best(n[0], n[1], n[2], n[3]);
            case 11:
                return x.feed(n[0], n[1], n[2], n[3], n[4]);
            default:
                return x.end(n[0]);
        }
    }

    private static long callOfYears(PepperYears x, int which, int[] n) {
        switch (which) {
            case 13:
                return x.tithes();
            case 14:
                return x.fault();
            case 15:
                return x.tithe(n[0], n[1], n[2]);
            case 16:
                return x.plan(n[0], n[1]);
            case 17:
                return x.planned(n[0]);
            case 18:
                return x.go(n[0]);
            case 19:
                return x.stock(n[0], n[1]);
            case 20:
                return x.advance(n[0], n[1], n[2], n[3], n[4]);
            case 21:
                return x.bring(n[0]);
            case 22:
                return x.owed(n[0], n[1]);
            case 23:
                return x.led(n[0], n[1]);
            case 24:
                return x.count(n[0]);
            default:
                return x.status();
        }
    }
}
