import java.io.IOException;
import java.lang.reflect.Constructor;
import java.lang.reflect.Field;
import java.lang.reflect.Method;
import java.lang.reflect.Modifier;
import java.nio.charset.StandardCharsets;
import java.nio.file.Files;
import java.nio.file.Path;
import java.util.ArrayList;
import java.util.Arrays;
import java.util.List;
import java.util.Set;
import java.util.TreeSet;
import java.util.regex.Matcher;
import java.util.regex.Pattern;

/** The public face, and the rules of LANGUAGE.md that can be seen from outside. */
public final class LanguageTest {
    private static final String[] FACE = {
        "int bears(int, int)", "int ratio(int, int)", "int price(int, int, int, int)",
        "int at(int, int, int)", "int terms(int, int)", "int garden(int, int)", "int of(int, int)",
        "int plant(int)", "int fell(int)", "int fresh(int)", "int best(int, int, int, int)",
        "int feed(int, int, int, int, int)", "int end(int)", "int tithes()", "int fault()",
        "long tithe(int, int, int)", "long plan(int, int)", "int planned(int)", "int go(int)",
        "int stock(int, int)", "int advance(int, int, int, int, int)", "int bring(int)",
        "int owed(int, int)", "int led(int, int)", "int count(int)", "int status()",
    };

    public static void main(String[] args) throws IOException {
        face();
        for (Class<?> inside : PepperYears.class.getDeclaredClasses()) {
            inside(inside);
        }
        sizes();
        String path = args.length > 0 ? args[0] : "src/main/java/PepperYears.java";
        source(path);
        methods(Files.readAllLines(Path.of(path), StandardCharsets.ISO_8859_1));
        Checks.finish();
    }

    // Rule 1
    private static void face() {
        Set<String> found = new TreeSet<>();
        for (Method m : PepperYears.class.getDeclaredMethods()) {
            if (Modifier.isPublic(m.getModifiers())) {
                found.add(signature(m));
            } else {
                Checks.holds(m + " is private", Modifier.isPrivate(m.getModifiers()));
                Checks.holds(m + " has a name of its own", !isFaceName(m.getName()));
            }
        }
        Checks.holds("the face is " + found, found.equals(new TreeSet<>(Arrays.asList(FACE))));
        Checks.holds("final", Modifier.isFinal(PepperYears.class.getModifiers()));
        Constructor<?>[] made = PepperYears.class.getDeclaredConstructors();
        Checks.holds("one public constructor", made.length == 1 && made[0].getParameterCount() == 0
                && Modifier.isPublic(made[0].getModifiers()));
        for (Field f : PepperYears.class.getDeclaredFields()) {
            Checks.holds(f + " is NONE or private",
                    f.getName().equals("NONE") == Modifier.isPublic(f.getModifiers())
                    && (f.getName().equals("NONE") || Modifier.isPrivate(f.getModifiers())));
        }
    }

    private static String signature(Method m) {
        List<String> types = new ArrayList<>();
        for (Class<?> type : m.getParameterTypes()) {
            types.add(type.getSimpleName());
        }
        return m.getReturnType().getSimpleName() + " " + m.getName() + "(" + String.join(", ", types) + ")";
    }

    private static boolean isFaceName(String name) {
        return Arrays.stream(FACE).anyMatch(f -> f.matches("\\w+ " + name + "\\(.*"));
    }

    // Rules 1, 2
    private static void inside(Class<?> c) {
        Checks.holds(c + " is static", Modifier.isStatic(c.getModifiers()));
        Checks.holds(c + " is not public or protected",
                (c.getModifiers() & (Modifier.PUBLIC | Modifier.PROTECTED)) == 0);
        for (Method m : c.getDeclaredMethods()) {
            Checks.holds(m + " has a name of its own", !isFaceName(m.getName()));
        }
    }

    // Rules 5, 11
    private static void sizes() {
        List<Class<?>> all = new ArrayList<>(Arrays.asList(PepperYears.class.getDeclaredClasses()));
        all.add(PepperYears.class);
        Checks.holds("at most twelve classes", all.size() <= 12);
        for (Class<?> c : all) {
            int fields = 0;
            for (Field f : c.getDeclaredFields()) {
                boolean isStatic = Modifier.isStatic(f.getModifiers());
                Checks.holds(f + " is final", !isStatic || Modifier.isFinal(f.getModifiers()));
                fields += isStatic ? 0 : 1;
            }
            Checks.holds(c + " has at most twenty fields", fields <= 20);
            for (Method m : c.getDeclaredMethods()) {
                Checks.holds(m + " takes at most seven", m.getParameterCount() <= 7);
            }
        }
    }

    // Rules 2, 4, 6, 13
    private static void source(String path) throws IOException {
        String text = Files.readString(Path.of(path), StandardCharsets.ISO_8859_1);
        String code = text.replaceAll("(?s)/\\*.*?\\*/", " ").replaceAll("//[^\n]*", " ")
                .replaceAll("\"[^\"\n]*\"", "\"\"");
        Checks.holds("no package line", !code.matches("(?s).*\\bpackage\\b.*"));
        for (String word : new String[] {"throw", "throws", "try", "catch", "synchronized", "assert",
            "protected", "volatile", "transient", "native", "->", "::", "System.out", "Random", "Thread"}) {
            String pattern = Character.isLetter(word.charAt(0)) ? "\\b" + Pattern.quote(word) + "\\b"
                    : Pattern.quote(word);
            Checks.holds("the source is without " + word, !Pattern.compile(pattern).matcher(code).find());
        }
        Matcher imports = Pattern.compile("import\\s+([\\w.*]+)\\s*;").matcher(code);
        while (imports.find()) {
            Checks.holds("import of " + imports.group(1), imports.group(1).equals("java.util.Arrays"));
        }
        for (char c : text.toCharArray()) {
            if (c > 126) {
                Checks.holds("plain characters alone", false);
                return;
            }
        }
    }

    // Rules 11, 12
    private static void methods(List<String> lines) {
        Pattern header = Pattern.compile("( {4}| {8})(?! )[^=;/*]*?(\\w+)\\(.*");
        int found = 0;
        for (int i = 0; i < lines.size(); i++) {
            Matcher m = header.matcher(lines.get(i));
            if (m.matches() && opensMethod(lines.get(i))) {
                int length = lines.subList(i, lines.size()).indexOf(m.group(1) + "}");
                Checks.holds(m.group(2) + " has at most sixty lines", length >= 0 && length < 60);
                makesNothing(m.group(2), lines.subList(i, i + Math.max(length, 0)));
                i += Math.max(length, 0);
                found++;
            }
        }
        Checks.holds("each method was looked at", found >= methodsInAll());
    }

    private static boolean opensMethod(String line) {
        return !line.matches("\\s*(if|for|while|switch|return|\\}).*") && !line.endsWith(";");
    }

    /** All calls of a run share one room, so that rows are made in constructors alone. */
    private static void makesNothing(String name, List<String> lines) {
        boolean isConstructor = Character.isUpperCase(name.charAt(0));
        for (String line : lines) {
            boolean makes = line.replaceFirst("//.*", "").matches(".*\\bnew\\b.*");
            Checks.holds(name + " makes no object: " + line, isConstructor || !makes);
        }
    }

    private static int methodsInAll() {
        int sum = PepperYears.class.getDeclaredMethods().length;
        for (Class<?> inside : PepperYears.class.getDeclaredClasses()) {
            sum += inside.getDeclaredMethods().length;
        }
        return sum;
    }
}
