import java.util.Arrays;
import java.util.Random;

/** Runs of 512 random calls, each asked of PepperYears and of PlainModel. The seeds are fixed. */
public final class RandomRunsTest {
    private static final int RUNS = 1500;
    private static final int CALLS = 512;
    private static final int[] ODD = {Integer.MIN_VALUE, -2, -1, 40, 2001, 100_001, Integer.MAX_VALUE};
    private static final String[] PIECES = {"part", "of", "vines", "each", "from", "free", "most", ";",
        "0", "1", "7", "24", "25", "100", "10000", "10001", "x", " ", ","};

    private final Random random;
    private final PepperYears x = new PepperYears();
    private final PlainModel model = new PlainModel();
    private final int run;
    private int call;

    private RandomRunsTest(int run) {
        this.run = run;
        random = new Random(run);
    }

    public static void main(String[] args) {
        for (int run = 0; run < RUNS && !Checks.anyWrong(); run++) {
            new RandomRunsTest(run).all();
        }
        Checks.finish();
    }

    private void all() {
        // Runs differ in what they do most: of each call a weight, so that rooms fill up in some.
        int[] weights = new int[27];
        for (int i = 0; i < weights.length; i++) {
            weights[i] = random.nextInt(4) == 0 ? random.nextInt(30) : 1 + random.nextInt(5);
        }
        weights[19] = random.nextInt(3);
        int sum = Arrays.stream(weights).sum();
        if (random.nextBoolean()) {
            begin();
        }
        while (call < CALLS) {
            int left = random.nextInt(sum);
            int which = 0;
            while (left >= weights[which]) {
                left -= weights[which];
                which++;
            }
            one(which);
        }
    }

    /** A run that begins with yields, prices and gardens, so that there is something to plan. */
    private void begin() {
        for (int age = 0; age <= 24; age++) {
            int piculs = random.nextInt(3) == 0 ? 0 : random.nextInt(501);
            due("bears", x.bears(age, piculs), model.bears(age, piculs));
        }
        for (int i = 0; i < 12; i++) {
            one(2);
            one(5);
        }
    }

    /** A number from the range; now and then one just beside it, or an odd one. */
    private int pick(int least, int most) {
        int dice = random.nextInt(120);
        if (dice == 0) {
            return ODD[random.nextInt(ODD.length)];
        }
        if (dice == 1) {
            return random.nextBoolean() ? least - 1 : most + 1;
        }
        if (dice < 10) {
            return random.nextBoolean() ? least : most;
        }
        return least + random.nextInt(most - least + 1);
    }

    /** A number that mostly names something that there is. */
    private int among(int size) {
        return pick(0, Math.max(0, size - 1));
    }

    private int someGarden() {
        return among(model.count(1));
    }

    private int someYear() {
        return random.nextInt(3) == 0 ? pick(0, 39) : pick(0, 8);
    }

    private void due(String what, long got, long want) {
        call++;
        Checks.due("run " + run + ", call " + call + ": " + what, got, want);
    }

    private void one(int which) {
        if (which < 12) {
            oneOfGardens(which);
        } else if (which < 19) {
            oneOfTithes(which);
        } else {
            oneOfYears(which);
        }
    }

    private void oneOfGardens(int which) {
        int a = pick(0, 24);
        int b = someYear();
        int c = someYear();
        int d = random.nextInt(2) == 0 ? pick(0, 3) : random.nextInt(2);
        int g = someGarden();
        int n;
        switch (which) {
            case 0:
                n = pick(0, 500);
                due("bears", x.bears(a, n), model.bears(a, n));
                break;
            case 1:
                n = pick(1, 100);
                due("ratio", x.ratio(d, n), model.ratio(d, n));
                break;
            case 2:
                n = random.nextBoolean() ? pick(0, 1000) : pick(0, 5);
                due("price", x.price(d, b, n, c), model.price(d, b, n, c));
                break;
            case 3:
                due("at", x.at(d, b, c), model.at(d, b, c));
                break;
            case 4:
                n = pick(0, random.nextBoolean() ? 100 : 3);
                int cost = pick(0, random.nextBoolean() ? 100 : 3);
                due("terms", x.terms(n, cost), model.terms(n, cost));
                break;
            case 5:
                n = pick(1, random.nextBoolean() ? 2000 : 150);
                a = pick(-1, 24);
                due("garden", x.garden(n, a), model.garden(n, a));
                break;
            case 6:
                n = pick(0, 1);
                due("of", x.of(g, n), model.of(g, n));
                break;
            case 7:
                due("plant", x.plant(g), model.plant(g));
                break;
            case 8:
                due("fell", x.fell(g), model.fell(g));
                break;
            case 9:
                due("fresh", x.fresh(g), model.fresh(g));
                break;
            default:
                n = pick(0, random.nextBoolean() ? 100_000 : 20);
                int what = pick(0, 2);
                due("best", x.best(n, b, c, what), model.best(n, b, c, what));
                break;
        }
    }

    private void oneOfTithes(int which) {
        switch (which) {
            case 12:
                feed(random.nextInt(), random.nextInt(), random.nextInt(), 0x20202020, random.nextInt());
                break;
            case 13:
                int n = pick(0, Math.max(model.count(6), 1));
                due("end", x.end(n), model.end(n));
                break;
            case 14:
                text(random.nextBoolean() ? someTithes() : somePieces());
                break;
            case 15:
                due("tithes", x.tithes(), model.tithes());
                break;
            case 16:
                due("fault", x.fault(), model.fault());
                break;
            default:
                int vines = pick(0, random.nextBoolean() ? 2000 : 30);
                int age = pick(0, 24);
                int m = pick(0, random.nextBoolean() ? 100_000_000 : 1000);
                due("tithe", x.tithe(vines, age, m), model.tithe(vines, age, m));
                break;
        }
    }

    private void feed(int a, int b, int c, int d, int e) {
        due("feed", x.feed(a, b, c, d, e), model.feed(a, b, c, d, e));
    }

    private void text(String text) {
        due("end", x.end(0), model.end(0));
        int[] w = Checks.words(text);
        for (int i = 0; i < w.length; i += 5) {
            feed(w[i], w[i + 1], w[i + 2], w[i + 3], w[i + 4]);
        }
        due("end", x.end(text.length()), model.end(text.length()));
        due("tithes of \"" + text + "\"", x.tithes(), model.tithes());
        due("fault of \"" + text + "\"", x.fault(), model.fault());
    }

    /** Tithes that are mostly right, now and then one letter of them another. */
    private String someTithes() {
        StringBuilder text = new StringBuilder();
        int count = random.nextInt(8) == 0 ? 18 + random.nextInt(4) : 1 + random.nextInt(6);
        for (int i = 0; i < count; i++) {
            text.append(i == 0 ? "" : random.nextBoolean() ? ";" : " ; ").append(someTithe(count > 10));
        }
        if (text.length() > 200) {
            text.setLength(200);
        }
        if (random.nextInt(4) == 0) {
            String piece = PIECES[random.nextInt(PIECES.length)];
            text.setCharAt(random.nextInt(text.length()), piece.charAt(0));
        }
        return text.toString();
    }

    private String someTithe(boolean isShort) {
        int n = random.nextInt(isShort ? 10 : 300);
        switch (isShort ? 2 + random.nextInt(2) : random.nextInt(4)) {
            case 0:
                return "part " + n + " of " + Math.max(1, n + random.nextInt(50) - 2);
            case 1:
                return "vines " + (n + 1) + " each " + random.nextInt(40)
                        + (random.nextBoolean() ? " from " + random.nextInt(26) : "");
            case 2:
                return "free" + (isShort ? "" : " ") + n;
            default:
                return "most" + (isShort ? "" : " ") + n * (isShort ? 1 : 100);
        }
    }

    private String somePieces() {
        StringBuilder text = new StringBuilder();
        int count = random.nextInt(12);
        for (int i = 0; i < count; i++) {
            text.append(PIECES[random.nextInt(PIECES.length)]).append(random.nextInt(3) == 0 ? "" : " ");
        }
        return text.toString();
    }

    private void oneOfYears(int which) {
        int g = someGarden();
        int sort = random.nextInt(2) == 0 ? pick(0, 3) : random.nextInt(2);
        int year = someYear();
        int n;
        switch (which) {
            case 19:
                n = random.nextInt(6) == 0 ? pick(1, 20) : pick(1, 2);
                due("go", x.go(n), model.go(n));
                break;
            case 20:
                n = random.nextBoolean() ? pick(1, 20) : pick(1, 4);
                due("plan of " + n, x.plan(g, n), model.plan(g, n));
                for (int i = -1; i <= 20; i += 1 + random.nextInt(3)) {
                    due("planned(" + i + ")", x.planned(i), model.planned(i));
                }
                break;
            case 21:
                int garden = random.nextBoolean() ? -1 : g;
                due("stock", x.stock(sort, garden), model.stock(sort, garden));
                break;
            case 22:
                n = pick(1, random.nextBoolean() ? 10_000 : 300);
                int paid = pick(0, 1_000_000);
                int known = someYear();
                due("advance", x.advance(sort, n, year, paid, known), model.advance(sort, n, year, paid, known));
                break;
            case 23:
                n = among(model.count(5));
                due("bring", x.bring(n), model.bring(n));
                break;
            case 24:
                due("owed", x.owed(sort, year), model.owed(sort, year));
                break;
            case 25:
                n = among(model.count(5));
                due("led", x.led(n, g), model.led(n, g));
                break;
            default:
                n = pick(0, 8);
                due("count(" + n + ")", x.count(n), model.count(n));
                due("status", x.status(), model.status());
                break;
        }
    }
}
