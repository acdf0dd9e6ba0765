import java.util.ArrayList;
import java.util.HashMap;
import java.util.List;
import java.util.Map;
import java.util.regex.Matcher;
import java.util.regex.Pattern;

/** A second reading of the document, as plain as can be and without a thought for room or speed. */
final class PlainModel {
    private static final long BEYOND = -4_000_000_000_000_000_000L;

    private record Price(int sort, int year, int price, int known) {
    }

    private record Lot(int sort, int garden, int[] left) {
    }

    private record Advance(int sort, int piculs, int due, int known, Map<Integer, Integer> from) {
        int missing() {
            return piculs - from.values().stream().mapToInt(Integer::intValue).sum();
        }
    }

    /** Rows of deeds with what they bring. */
    private record Plan(long brings, List<Integer> deeds) {
    }

    private final int[] yields = new int[25];
    private final int[] ratios = {100, 60, 35, 25};
    private final List<Price> prices = new ArrayList<>();
    private final List<int[]> gardens = new ArrayList<>();
    private final List<Lot> lots = new ArrayList<>();
    private final List<Advance> advances = new ArrayList<>();
    private String tape = "";
    private List<String[]> tithes = new ArrayList<>();
    private int fault = -1;
    private Plan latest;
    private int keep = 1;
    private int cost = 5;
    private int now = 0;
    private int harvested = 0;
    private int brought = 0;
    private int status = 0;

    private static boolean out(int n, int least, int most) {
        return n < least || n > most;
    }

    private int told(int answer) {
        status = answer < 0 ? answer : 0;
        return answer;
    }

    int bears(int age, int piculs) {
        if (out(age, 0, 24) || out(piculs, 0, 500)) {
            return told(-1);
        }
        yields[age] = piculs;
        return told(0);
    }

    int ratio(int sort, int n) {
        if (out(sort, 0, 3) || out(n, 1, 100)) {
            return told(-1);
        }
        ratios[sort] = n;
        return told(0);
    }

    int price(int sort, int year, int price, int known) {
        if (out(sort, 0, 3) || out(year, 0, 39) || out(price, 0, 1000) || out(known, 0, 39)) {
            return told(-1);
        }
        if (prices.size() == 300) {
            return told(-5);
        }
        prices.add(new Price(sort, year, price, known));
        return told(prices.size());
    }

    int at(int sort, int year, int known) {
        if (out(sort, 0, 3) || out(year, 0, 39) || out(known, 0, 39)) {
            return -1;
        }
        for (int i = prices.size() - 1; i >= 0; i--) {
            Price p = prices.get(i);
            if (p.sort == sort && p.year == year && p.known <= known) {
                return p.price;
            }
        }
        return year == 0 ? 0 : at(sort, year - 1, known);
    }

    int terms(int newKeep, int newCost) {
        if (out(newKeep, 0, 100) || out(newCost, 0, 100)) {
            return told(-1);
        }
        keep = newKeep;
        cost = newCost;
        return told(0);
    }

    int garden(int vines, int age) {
        if (out(vines, 1, 2000) || out(age, -1, 24)) {
            return told(-1);
        }
        if (gardens.size() == 12) {
            return told(-5);
        }
        gardens.add(new int[] {vines, age});
        return told(gardens.size() - 1);
    }

    private boolean noGarden(int garden) {
        return out(garden, 0, gardens.size() - 1);
    }

    int of(int garden, int what) {
        return noGarden(garden) || out(what, 0, 1) ? -1 : gardens.get(garden)[what];
    }

    int plant(int garden) {
        if (noGarden(garden)) {
            return told(-2);
        }
        int[] g = gardens.get(garden);
        if (g[1] != -1) {
            return told(-3);
        }
        g[1] = 0;
        return told(g[0] * cost);
    }

    int fell(int garden) {
        if (noGarden(garden)) {
            return told(-2);
        }
        int[] g = gardens.get(garden);
        if (g[1] == -1) {
            return told(-3);
        }
        g[1] = -1;
        return told(0);
    }

    int fresh(int garden) {
        return noGarden(garden) ? -1 : borne(gardens.get(garden)[0], gardens.get(garden)[1]);
    }

    private int borne(int vines, int age) {
        return age == -1 ? 0 : vines * yields[age] / 100;
    }

    int best(int fresh, int year, int known, int what) {
        if (out(fresh, 0, 100_000) || out(year, 0, 39) || out(known, 0, 39) || out(what, 0, 2)) {
            return -1;
        }
        int[] best = {0, 0, -1};
        for (int s = 3; s >= 0; s--) {
            int piculs = fresh * ratios[s] / 100;
            int brings = piculs * at(s, year, known);
            if (brings >= best[2]) {
                best = new int[] {s, piculs, brings};
            }
        }
        return best[what];
    }

    int feed(int a, int b, int c, int d, int e) {
        if (tape.length() + 20 > 200) {
            return -1;
        }
        for (int four : new int[] {a, b, c, d, e}) {
            tape += "" + (char) (four >>> 24) + (char) (four >>> 16 & 255)
                    + (char) (four >>> 8 & 255) + (char) (four & 255);
        }
        return tape.length();
    }

    int end(int n) {
        if (out(n, 0, tape.length())) {
            return -1;
        }
        tape = tape.substring(0, n);
        return n;
    }

    int tithes() {
        List<String> tokens = new ArrayList<>();
        List<Integer> places = new ArrayList<>();
        Matcher m = Pattern.compile("[a-z]+|[0-9]+|[^ ]", Pattern.DOTALL).matcher(tape);
        while (m.find()) {
            tokens.add(m.group());
            places.add(m.start());
        }
        places.add(tape.length());
        tape = "";
        List<String[]> read = new ArrayList<>();
        int wrong = read(tokens, read);
        fault = wrong == -1 ? -1 : places.get(wrong);
        if (wrong != -1) {
            return told(-6);
        }
        tithes = read;
        return told(read.size());
    }

    /**
     * The place of the first token that can't go on, or -1. What can come next is held as a word:
     * TITHE; or a number's name; or a word that is due; or BEHIND, where a tithe may end.
     */
    private static int read(List<String> tokens, List<String[]> read) {
        if (tokens.isEmpty()) {
            return -1;
        }
        String next = "TITHE";
        List<String> row = new ArrayList<>();
        for (int i = 0; i < tokens.size(); i++) {
            String t = tokens.get(i);
            if (next.equals("TITHE") && read.size() == 20) {
                return i;
            }
            String then = behind(next, t, row);
            if (then == null) {
                return i;
            }
            if (then.equals("TITHE")) {
                row = new ArrayList<>();
            } else {
                row.add(t);
                if (then.startsWith("BEHIND")) {
                    if (t.matches("[0-9]+") && next.equals("AGE")) {
                        read.remove(read.size() - 1);
                    }
                    read.add(row.toArray(new String[0]));
                }
            }
            next = then;
        }
        return next.startsWith("BEHIND") ? -1 : tokens.size();
    }

    private static String behind(String state, String t, List<String> row) {
        switch (state) {
            case "TITHE":
                return t.matches("part|vines|free|most") ? "NUMBER " + t : null;
            case "NUMBER part":
                return isNumber(t, 0, 10_000) ? "of" : null;
            case "of":
                return t.equals("of") ? "NUMBER of" : null;
            case "NUMBER of":
                return isNumber(t, Math.max(1, Integer.parseInt(row.get(1))), 10_000) ? "BEHIND" : null;
            case "NUMBER vines":
                return isNumber(t, 1, 10_000) ? "each" : null;
            case "each":
                return t.equals("each") ? "NUMBER each" : null;
            case "NUMBER each":
                return isNumber(t, 0, 10_000) ? "BEHIND EACH" : null;
            case "AGE":
                return isNumber(t, 0, 24) ? "BEHIND" : null;
            case "NUMBER free":
            case "NUMBER most":
                return isNumber(t, 0, 10_000) ? "BEHIND" : null;
            case "BEHIND EACH":
                return t.equals(";") ? "TITHE" : t.equals("from") ? "AGE" : null;
            default:
                return t.equals(";") ? "TITHE" : null;
        }
    }

    private static boolean isNumber(String t, int least, int most) {
        String short_ = t.replaceFirst("^0+(?=.)", "");
        return short_.matches("[0-9]{1,5}") && !out(Integer.parseInt(short_), least, most);
    }

    int fault() {
        return fault;
    }

    long tithe(int vines, int age, int m) {
        return out(vines, 0, 2000) || out(age, 0, 24) || out(m, 0, 100_000_000) ? -1 : titheOf(vines, age, m);
    }

    private long titheOf(int vines, int age, long m) {
        long sum = 0;
        long free = 0;
        for (String[] t : tithes) {
            long n = Long.parseLong(t[1]);
            switch (t[0]) {
                case "part":
                    sum += m * n / Long.parseLong(t[3]);
                    break;
                case "vines":
                    if (t.length < 6 || age >= Long.parseLong(t[5])) {
                        sum += vines / n * Long.parseLong(t[3]);
                    }
                    break;
                case "free":
                    free = n;
                    break;
                default:
                    sum = sum > n ? n : sum;
                    break;
            }
        }
        return vines < free ? 0 : sum;
    }

    long plan(int garden, int n) {
        if (noGarden(garden) || out(n, 1, 20) || now + n > 40) {
            return BEYOND;
        }
        int[] g = gardens.get(garden);
        latest = n <= 4 ? bestByTryingAll(g[0], g[1], n) : bestFrom(g[0], g[1], 0, n, new HashMap<>());
        return latest.brings;
    }

    /** All rows of deeds in their order, the first of those that bring most. */
    private Plan bestByTryingAll(int vines, int age, int n) {
        Plan best = null;
        for (int row = 0; row < 1 << 2 * n; row++) {
            List<Integer> deeds = new ArrayList<>();
            for (int y = 0; y < n; y++) {
                deeds.add(row >> 2 * (n - 1 - y) & 3);
            }
            long brings = bringsOf(vines, age, deeds);
            if (brings != BEYOND && (best == null || brings > best.brings)) {
                best = new Plan(brings, deeds);
            }
        }
        return best;
    }

    private long bringsOf(int vines, int first, List<Integer> deeds) {
        long sum = 0;
        int age = first;
        for (int y = 0; y < deeds.size(); y++) {
            int deed = deeds.get(y);
            if (deed != 0 && (age == -1) != (deed == 2)) {
                return BEYOND;
            }
            age = deed == 0 ? age : deed == 1 ? -1 : 0;
            sum -= deed >= 2 ? cost * vines : 0;
            sum += gain(vines, age, now + y);
            age = age == -1 ? -1 : Math.min(24, age + 1);
        }
        return sum;
    }

    private long gain(int vines, int age, int year) {
        if (age == -1) {
            return 0;
        }
        int m = best(borne(vines, age), year, now, 2);
        return m - titheOf(vines, age, m) - (long) keep * vines;
    }

    private Plan bestFrom(int vines, int age, int y, int n, Map<Integer, Plan> known) {
        if (y == n) {
            return new Plan(0, List.of());
        }
        Plan held = known.get(y * 100 + age);
        if (held != null) {
            return held;
        }
        for (int deed = 0; deed < 4; deed++) {
            if (deed != 0 && (age == -1) != (deed == 2)) {
                continue;
            }
            int at = deed == 0 ? age : deed == 1 ? -1 : 0;
            Plan rest = bestFrom(vines, at == -1 ? -1 : Math.min(24, at + 1), y + 1, n, known);
            long brings = gain(vines, at, now + y) - (deed >= 2 ? cost * vines : 0) + rest.brings;
            if (held == null || brings > held.brings) {
                List<Integer> deeds = new ArrayList<>(List.of(deed));
                deeds.addAll(rest.deeds);
                held = new Plan(brings, deeds);
            }
        }
        known.put(y * 100 + age, held);
        return held;
    }

    int planned(int i) {
        if (latest == null) {
            return -1;
        }
        return i == -1 ? latest.deeds.size() : out(i, 0, latest.deeds.size() - 1) ? -1 : latest.deeds.get(i);
    }

    int go(int years) {
        if (out(years, 1, 20) || now + years > 39) {
            return told(-1);
        }
        for (int y = 0; y < years; y++) {
            for (int g = 0; g < gardens.size(); g++) {
                int piculs = best(fresh(g), now, now, 1);
                if (piculs > 0) {
                    lots.add(new Lot(best(fresh(g), now, now, 0), g, new int[] {piculs}));
                    harvested += piculs;
                }
            }
            for (int[] g : gardens) {
                g[1] = g[1] == -1 ? -1 : Math.min(24, g[1] + 1);
            }
            now++;
        }
        return told(now);
    }

    int stock(int sort, int garden) {
        if (out(sort, 0, 3) || garden != -1 && noGarden(garden)) {
            return -1;
        }
        return lots.stream().filter(l -> l.sort == sort && (garden == -1 || l.garden == garden))
                .mapToInt(l -> l.left[0]).sum();
    }

    int advance(int sort, int piculs, int due, int paid, int known) {
        if (out(sort, 0, 3) || out(piculs, 1, 10_000) || out(due, 0, 39) || out(paid, 0, 1_000_000)
                || out(known, 0, 39)) {
            return told(-1);
        }
        if (advances.size() == 60) {
            return told(-5);
        }
        advances.add(new Advance(sort, piculs, due, known, new HashMap<>()));
        return told(advances.size() - 1);
    }

    int bring(int advance) {
        if (out(advance, 0, advances.size() - 1)) {
            return told(-2);
        }
        Advance a = advances.get(advance);
        int sum = 0;
        for (Lot l : lots) {
            if (l.sort == a.sort) {
                int piculs = Math.min(l.left[0], a.missing());
                l.left[0] -= piculs;
                a.from.merge(l.garden, piculs, Integer::sum);
                sum += piculs;
            }
        }
        brought += sum;
        return told(sum);
    }

    int owed(int sort, int known) {
        if (out(sort, 0, 3) || out(known, 0, 39)) {
            return -1;
        }
        return advances.stream().filter(a -> a.sort == sort && Math.max(a.known, a.due) <= known)
                .mapToInt(Advance::missing).sum();
    }

    int led(int advance, int garden) {
        if (out(advance, 0, advances.size() - 1) || noGarden(garden)) {
            return -1;
        }
        return advances.get(advance).from.getOrDefault(garden, 0);
    }

    int count(int what) {
        int[] counts = {now, gardens.size(), prices.size(), tithes.size(), lots.size(), advances.size(),
            tape.length(), harvested, brought};
        return out(what, 0, 8) ? -1 : counts[what];
    }

    int status() {
        return status;
    }
}
