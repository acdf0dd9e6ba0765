import java.math.BigInteger;
import java.util.Arrays;

/** Of the document's term III, TITHES, each sentence that names a boundary has a test of its own. */
public final class TithesBoundariesTest {
    /** All forms of a TITHE; each TOKEN with a blank behind it, so that rows of them can be joined. */
    private static final String[] TOKENS = {"part ", "1 ", "of ", "2 ", "; ", "vines ", "3 ", "each ",
        "4 ", "from ", "5 ", "; ", "free ", "6 ", "; ", "most ", "7 "};
    /** How many of the TOKENS make whole TITHES. */
    private static final int[] WHOLE = {4, 9, 11, 14, 17};
    private static final int TO = 10_000;

    public static void main(String[] args) {
        text();
        grammar();
        numbers();
        faults();
        amounts();
        Checks.finish();
    }

    private static void text() {
        textAtMost();
        anyBlanks();
        blankIsThirtyTwo();
        rowsOfLetters();
        rowsOfDigits();
        singleOtherBytes();
        nothingOfAnEarlierText();
    }

    private static void grammar() {
        titheByTithe();
        fromMayBeLeftOut();
        wordsAsTheyStand();
    }

    private static void numbers() {
        numbersToTenThousand();
        oneAtLeast();
        notBelowTheOneAhead();
        agesToTwentyFour();
    }

    private static void faults() {
        firstThatCannotGoOn();
        theEndsFault();
        twentyAtMost();
    }

    private static void amounts() {
        fromZeroOn();
        partIsCut();
        eachWholeOfVines();
        notBelowAge();
        zeroWithoutFrom();
        noMoreThan();
        asItIsThen();
        belowTheLastFree();
    }

    private static void sentence(String words) {
        Checks.sentence(words);
    }

    private static void due(String call, long got, long want) {
        Checks.due(call, got, want);
    }

    private static void good(String text, int count) {
        Checks.good(new PepperYears(), text, count);
    }

    private static void bad(String text, int place) {
        Checks.bad(new PepperYears(), text, place);
    }

    private static PepperYears under(String text, int count) {
        PepperYears x = new PepperYears();
        Checks.good(x, text, count);
        return x;
    }

    private static boolean isLetter(int b) {
        return 'a' <= b && b <= 'z';
    }

    private static boolean isDigit(int b) {
        return '0' <= b && b <= '9';
    }

    // ---- The TEXT and its TOKENS

    private static void textAtMost() {
        sentence("a TEXT of at most 200 bytes");
        PepperYears x = under(" ".repeat(180) + "free 7; part 1 of 10", 2);
        due("the last byte counts", x.tithe(7, 0, 20), 2);
        due("the first TITHE too", x.tithe(6, 0, 20), 0);
        good("part1of10;".repeat(19) + "part1of100", 20);
        bad("part1of10;".repeat(20), 200);
        bad(" ".repeat(199) + "x", 199);
        bad(";".repeat(200), 0);
        bad("x".repeat(200), 0);
        bad("1".repeat(200), 0);
        good(" ".repeat(200), 0);
        bad("x", 0);
        good("", 0);
    }

    private static void anyBlanks() {
        sentence("any blanks (32) between TOKENS");
        good("part1of2;vines3each4from5;free6;most7", 4);
        for (int n : new int[] {1, 2, 8}) {
            String gap = " ".repeat(n);
            good(gap + String.join("", TOKENS).replace(" ", gap), 4);
        }
        bad("free 1 2", 7);
        bad("fr ee 1", 0);
        bad("vines 3 each 4 from 2 5", 22);
    }

    private static void blankIsThirtyTwo() {
        sentence("blanks (32)");
        for (int b = 0; b < 256; b++) {
            String text = "free" + (char) b + "1";
            if (b == 32 || isDigit(b)) {
                good(text, 1);
            } else {
                bad(text, isLetter(b) ? 0 : 4);
            }
        }
    }

    private static void rowsOfLetters() {
        sentence("longest rows of letters a .. z");
        bad("Free 1", 0);
        bad("freE 1", 0);
        bad("fre", 0);
        bad("freefree 1", 0);
        bad("part 1 ofof 2", 7);
        for (int b = 0; b < 256; b++) {
            String text = (char) b + "free 1";
            if (b == 32) {
                good(text, 1);
            } else {
                bad(text, 0);
            }
        }
    }

    private static void rowsOfDigits() {
        sentence("of digits");
        for (int n : new int[] {1023, 4567, 8910}) {
            due("each digit counts", under("part 1 of 1;most " + n, 2).tithe(1, 1, TO), n);
        }
        for (int b = 0; b < 256; b++) {
            String text = "free 1" + (char) b + "2";
            if (isDigit(b)) {
                good(text, 1);
            } else {
                bad(text, b == 32 || b == ';' ? 7 : 6);
            }
        }
    }

    private static void singleOtherBytes() {
        sentence("single other bytes");
        good("free 1;free 2", 2);
        bad("free 1;;free 2", 7);
        bad("free 1;,", 7);
        bad("free 1,;", 6);
        bad("free -1", 5);
        bad("free +1", 5);
        bad("free 1.5", 6);
        bad("free \u00ff\u00ff", 5);
    }

    private static void nothingOfAnEarlierText() {
        sentence("The TAPE, which is empty then");
        PepperYears x = new PepperYears();
        // The earlier text's twelfth token lies where the next one, of eleven, has its "from".
        Checks.bad(x, ";;;;;;;;;;;    from", 0);
        Checks.good(x, "vines 1 each 2 from 3;vines 1 each 2", 2);
        due("the second has no from", x.tithe(1, 2, 0), 2);
        // The earlier text's fourth token lies where the next one, of three, has its number.
        Checks.bad(x, ";;;  7", 0);
        Checks.bad(x, "part 1 of", 9);
        Checks.good(x, "part 1 of 1;most 1234", 2);
        Checks.good(x, "part 1 of 1;most 1", 2);
        due("no digit of the earlier one", x.tithe(1, 0, TO), 1);
        Checks.bad(x, "part 1 of 1;most ", 17);
        Checks.good(x, " ", 0);
        due("no TITHE of the earlier one", x.tithe(1, 0, TO), 0);
    }

    // ---- The language

    private static void titheByTithe() {
        sentence("TITHE {\";\" TITHE}");
        good("free 1", 1);
        good("free 1;free 2", 2);
        bad(";", 0);
        bad(";free 1", 0);
        bad("free 1;", 7);
        bad("free 1;;", 7);
        bad("free 1 free 2", 7);
        bad("free 1:free 2", 6);
        bad("free 1,free 2", 6);
        bad("free 1;1", 7);
        bad("free 1;of 2", 7);
    }

    private static void fromMayBeLeftOut() {
        sentence("[\"from\" AGE]");
        good("vines 1 each 2", 1);
        good("vines 1 each 2 from 3", 1);
        good("vines 1 each 2;vines 1 each 2 from 3;vines 1 each 2", 3);
        bad("vines 1 each 2 3", 15);
        bad("vines 1 each 2 from", 19);
        bad("vines 1 each 2 from;", 19);
        bad("vines 1 each 2 from 3 from 3", 22);
        bad("vines 1 from 3", 8);
        bad("part 1 of 2 from 3", 12);
        bad("free 1 from 3", 7);
        bad("most 1 from 3", 7);
        bad("from 3", 0);
    }

    private static void wordsAsTheyStand() {
        sentence("\"part\" NUMBER \"of\" NUMBER");
        for (int i = 0; i < TOKENS.length; i++) {
            String word = TOKENS[i].trim();
            if (!isLetter(word.charAt(0))) {
                continue;
            }
            String cut = word.substring(0, word.length() - 1);
            String other = (char) (word.charAt(0) + 1) + word.substring(1);
            String last = cut + (char) (word.charAt(word.length() - 1) - 1);
            for (String wrong : new String[] {cut, word + "a", word + "s", other, last}) {
                bad(with(i, wrong + " "), placeOf(i));
            }
        }
    }

    /** The TOKENS with another one at a place. */
    private static String with(int i, String token) {
        String[] row = TOKENS.clone();
        row[i] = token;
        return String.join("", row);
    }

    private static int placeOf(int i) {
        return joined(i).length();
    }

    private static String joined(int count) {
        return String.join("", Arrays.copyOf(TOKENS, count));
    }

    // ---- Its numbers

    private static void numbersToTenThousand() {
        sentence("NUMBERS to 10,000");
        numberAt("part # of 10000", 0, TO);
        numberAt("part 0 of #", 1, TO);
        numberAt("vines # each 0", 1, TO);
        numberAt("vines 1 each #", 0, TO);
        numberAt("free #", 0, TO);
        numberAt("most #", 0, TO);
    }

    /** A NUMBER that is held within bounds: at them, beside them, and where an int or a long would wrap. */
    private static void numberAt(String form, int least, int most) {
        BigInteger bytes = BigInteger.valueOf(256);
        for (int n : new int[] {least, least + 1, most - 1, most}) {
            good(form.replace("#", Integer.toString(n)), 1);
            good(form.replace("#", "0".repeat(40) + n), 1);
        }
        bad(form.replace("#", Integer.toString(most + 1)), form.indexOf('#'));
        for (int size : new int[] {1, 2, 4, 8, 16}) {
            BigInteger wrapped = bytes.pow(size).add(BigInteger.valueOf(least));
            if (wrapped.compareTo(BigInteger.valueOf(most)) > 0) {
                bad(form.replace("#", wrapped.toString()), form.indexOf('#'));
            }
        }
        bad(form.replace("#", "9".repeat(201 - form.length())), form.indexOf('#'));
    }

    private static void oneAtLeast() {
        sentence("behind \"of\", \"vines\" 1 at least");
        good("part 0 of 1", 1);
        bad("part 0 of 0", 10);
        bad("part 0 of 000", 10);
        good("vines 1 each 0", 1);
        bad("vines 0 each 0", 6);
        good("vines 1 each 0 from 0", 1);
        good("free 0", 1);
        good("most 0", 1);
    }

    private static void notBelowTheOneAhead() {
        sentence("of \"of\" not below the one ahead");
        int[] some = {0, 1, 2, 9, 10, 9999, 10_000};
        for (int a : some) {
            for (int b : some) {
                String ahead = "part " + a + " of ";
                if (b >= a && b >= 1) {
                    good(ahead + b, 1);
                } else {
                    bad(ahead + b, ahead.length());
                }
            }
        }
        good("part 9 of 9;part 1 of 2", 2);
        bad("part 1 of 2;part 9 of 8", 22);
    }

    private static void agesToTwentyFour() {
        sentence("AGES to 24");
        numberAt("vines 1 each 0 from #", 0, 24);
    }

    // ---- FAULT

    private static void firstThatCannotGoOn() {
        sentence("FAULT: the first TOKEN that can't go on there");
        for (int i = 0; i < TOKENS.length; i++) {
            bad(with(i, "? "), placeOf(i));
            bad(with(i, "?? x 10001 "), placeOf(i));
            bad("   " + with(i, "? "), placeOf(i) + 3);
        }
        bad(joined(TOKENS.length) + "?", placeOf(TOKENS.length));
        bad("part 10001 of 0", 5);
        bad("vines 0 x", 6);
    }

    private static void theEndsFault() {
        sentence("(the end's: the TEXT's length)");
        for (int count = 1; count <= TOKENS.length; count++) {
            boolean whole = Arrays.binarySearch(WHOLE, count) >= 0;
            String withBlanks = joined(count);
            String without = withBlanks.trim();
            for (String text : new String[] {without, withBlanks, withBlanks + "       "}) {
                if (whole) {
                    good(text, 1 + (int) text.chars().filter(c -> c == ';').count());
                } else {
                    bad(text, text.length());
                }
            }
        }
    }

    private static void twentyAtMost() {
        sentence("20 TITHES at most (the 21st's first TOKEN)");
        for (int count : new int[] {1, 2, 19, 20}) {
            good("most1;".repeat(count - 1) + "most1", count);
        }
        String twenty = "most1;".repeat(20);
        bad(twenty + "most1", 120);
        bad(twenty + "   most1", 123);
        bad(twenty + "part 2 of 1", 120);
        bad(twenty + "x", 120);
        bad(twenty + ";", 120);
        bad(twenty + "most1;most1", 120);
        bad(twenty, 120);
        bad(twenty + "   ", 123);
        bad("most1;".repeat(19) + "most1 most1", 120);
        bad("most1;".repeat(19) + "most", 118);
    }

    // ---- TITHE of a GARDEN

    private static void fromZeroOn() {
        sentence("from 0 on");
        due("no TITHES", new PepperYears().tithe(2000, 24, 100_000_000), 0);
        due("nothing more", under("most 10000", 1).tithe(2000, 24, 100_000_000), 0);
        due("nothing more", under("free 0", 1).tithe(0, 0, 0), 0);
    }

    private static void partIsCut() {
        sentence("part a of b: m times a / b, cut, more");
        PepperYears x = under("part 1 of 100", 1);
        int[][] rows = {{0, 0}, {99, 0}, {100, 1}, {199, 1}, {200, 2}, {100_000_000, 1_000_000}};
        for (int[] row : rows) {
            due("m " + row[0], x.tithe(1, 0, row[0]), row[1]);
        }
        x = under("part 1 of 2;part 1 of 2", 2);
        due("each is cut by itself", x.tithe(1, 0, 1), 0);
        due("each is cut by itself", x.tithe(1, 0, 3), 2);
        x = under("part 9999 of 10000", 1);
        due("beyond an int on the way", x.tithe(1, 0, 100_000_000), 99_990_000);
        due("beyond an int on the way", x.tithe(1, 0, 99_999_999), 99_989_999);
        due("none of it", under("part 0 of 1", 1).tithe(1, 0, 100_000_000), 0);
        due("all of it", under("part 10000 of 10000", 1).tithe(1, 0, 99_999_999), 99_999_999);
        due("all of it, twenty times", under("part1of1;".repeat(19) + "part1of1", 20).tithe(0, 0, 100_000_000),
                2_000_000_000);
    }

    private static void eachWholeOfVines() {
        sentence("c more for each n whole of its vines");
        PepperYears x = under("vines 100 each 7", 1);
        int[][] rows = {{0, 0}, {99, 0}, {100, 7}, {199, 7}, {200, 14}, {1999, 133}, {2000, 140}};
        for (int[] row : rows) {
            due("vines " + row[0], x.tithe(row[0], 0, 100), row[1]);
        }
        due("just as many", under("vines 2000 each 1", 1).tithe(2000, 0, 0), 1);
        due("one too few", under("vines 2000 each 1", 1).tithe(1999, 0, 0), 0);
        due("more than can stand", under("vines 10000 each 10000", 1).tithe(2000, 24, 0), 0);
        due("most", under("vines 1 each 10000", 1).tithe(2000, 0, 0), 20_000_000);
        due("nothing for each", under("vines 1 each 0", 1).tithe(2000, 0, 0), 0);
    }

    private static void notBelowAge() {
        sentence("if a is not below g");
        for (int g : new int[] {1, 12, 24}) {
            PepperYears x = under("vines 1 each 1 from " + g, 1);
            due("below " + g, x.tithe(5, g - 1, 0), 0);
            due("at " + g, x.tithe(5, g, 0), 5);
            due("oldest", x.tithe(5, 24, 0), 5);
            due("youngest", x.tithe(5, 0, 0), 0);
        }
        due("from 0", under("vines 1 each 1 from 0", 1).tithe(5, 0, 0), 5);
    }

    private static void zeroWithoutFrom() {
        sentence("(0 without)");
        due("youngest", under("vines 1 each 1", 1).tithe(5, 0, 0), 5);
        due("behind one with from", under("vines 1 each 1 from 24;vines 1 each 1", 2).tithe(5, 0, 0), 5);
        due("ahead of one with from", under("vines 1 each 1;vines 1 each 1 from 24", 2).tithe(5, 0, 0), 5);
        due("oldest", under("vines 1 each 1;vines 1 each 1 from 24", 2).tithe(5, 24, 0), 10);
    }

    private static void noMoreThan() {
        sentence("most n: no more than n");
        PepperYears x = under("part 1 of 1;most 50", 2);
        for (int m : new int[] {0, 1, 49, 50}) {
            due("not above", x.tithe(1, 0, m), m);
        }
        due("one above", x.tithe(1, 0, 51), 50);
        due("far above", x.tithe(1, 0, 100_000_000), 50);
        due("most 0", under("part 1 of 1;most 0", 2).tithe(1, 0, 100), 0);
        due("most 10000", under("part 1 of 1;most 10000", 2).tithe(1, 0, 10_001), 10_000);
        x = under("part1of1;".repeat(19) + "most9", 20);
        due("beyond an int: above", x.tithe(1, 0, 100_000_000), 9);
    }

    private static void asItIsThen() {
        sentence("as it is then");
        due("ahead of all: nothing", under("most 5;part 1 of 1", 2).tithe(1, 0, 100), 100);
        due("between", under("part 1 of 1;most 5;part 1 of 1", 3).tithe(1, 0, 100), 105);
        due("a lower one later", under("part 1 of 1;most 5;most 3", 3).tithe(1, 0, 100), 3);
        due("a higher one later", under("part 1 of 1;most 3;most 5", 3).tithe(1, 0, 100), 3);
        due("at the end", under("part 1 of 1;part 1 of 1;most 5", 3).tithe(1, 0, 100), 5);
    }

    private static void belowTheLastFree() {
        sentence("If v is below the last \"free\", it is 0");
        PepperYears x = under("free 20;part 1 of 1", 2);
        due("below", x.tithe(19, 0, 8), 0);
        due("not below", x.tithe(20, 0, 8), 8);
        due("above", x.tithe(21, 0, 8), 8);
        due("no vines", x.tithe(0, 0, 8), 0);
        due("free 0", under("free 0;part 1 of 1", 2).tithe(0, 0, 8), 8);
        due("without one", under("part 1 of 1", 1).tithe(0, 0, 8), 8);
        due("free 2000", under("free 2000;part 1 of 1", 2).tithe(1999, 0, 8), 0);
        due("free 2000", under("free 2000;part 1 of 1", 2).tithe(2000, 0, 8), 8);
        due("free 10000", under("free 10000;part 1 of 1", 2).tithe(2000, 0, 8), 0);
        due("the last, lower", under("free 20;part 1 of 1;free 10", 3).tithe(10, 0, 8), 8);
        due("the last, higher", under("free 10;part 1 of 1;free 20", 3).tithe(19, 0, 8), 0);
        due("the last: 0", under("free 20;part 1 of 1;free 0", 3).tithe(0, 0, 8), 8);
        due("all is 0", under("part 1 of 1;free 20;part 1 of 1;vines 1 each 1", 4).tithe(19, 24, 8), 0);
    }
}
