import java.io.IOException;
import java.lang.reflect.Constructor;
import java.lang.reflect.Field;
import java.lang.reflect.Method;
import java.lang.reflect.Modifier;
import java.nio.file.Files;
import java.nio.file.Path;
import java.util.Set;
import java.util.TreeSet;
import java.util.regex.Matcher;
import java.util.regex.Pattern;

/** The public face, and those rules of LANGUAGE.md that can be seen from outside or in the text. */
public final class FaceTest {
    private static final String[] FACE = {
        "int road 5", "int open 2", "int table 3", "int enter 3", "int copy 3", "int toll 2", "int about 2",
        "int isOf 2", "int takes 2", "int driver 2", "int ways 1", "int way 3", "int choose 2", "int told 2",
        "int now 1", "int store 0", "int reply 1", "int habits 0", "int habit 1", "int best 0", "int rests 0",
        "int rest 1", "int extreme 1", "int price 1", "int harms 0", "int agrees 0", "int better 1", "int queue 0",
        "int teach 0", "long level 5", "long share 4", "int undo 0", "int count 1"};
    /** What the interface says ahead of calls, and these calls, as Terms 5 has them. */
    private static final String[] SECTIONS = {
        "the town: road open table enter copy toll about isOf takes",
        "drivers: driver ways way choose told now store reply",
        "habits: habits habit best rests rest extreme price harms agrees",
        "what drivers do: better queue teach",
        "streams: level share undo count"};
    private static final String[] CONSTANTS = {
        "NONE -1", "BAD -3", "NO -4", "FULL -5", "LARGE -6", "NOTHING -11", "INDEX -13"};
    private static final String[] FORBIDDEN = {
        "\\bthrow\\b", "\\bthrows\\b", "\\btry\\b", "\\bcatch\\b", "\\bsynchronized\\b", "\\bassert\\b", "->", "::",
        "Exact\\b", "\\bInteger\\.M", "\\bLong\\.M", "\\bSystem\\.(?!arraycopy)", "\\bpackage\\b", "\\bvar\\b", "\\t"};
    private static final int MOST_LINES = 60, MOST_CLASSES = 12, MOST_FIELDS = 20, MOST_PARAMETERS = 7;

    public static void main(String[] args) throws IOException, IllegalAccessException {
        face();
        constants();
        nested();
        text(Files.readString(Path.of(args[0])));
        Due.end();
    }

    private static void face() {
        Set<String> due = new TreeSet<>(Set.of(FACE));
        Set<String> got = new TreeSet<>();
        Set<String> names = new TreeSet<>();
        for (Method m : SelfishTown.class.getDeclaredMethods()) {
            if (m.isSynthetic()) {
                continue;
            }
            if (Modifier.isPrivate(m.getModifiers())) {
                continue;
            }
            Due.holds(m.getName() + " is public and not static",
                Modifier.isPublic(m.getModifiers()) && !Modifier.isStatic(m.getModifiers()));
            for (Class<?> type : m.getParameterTypes()) {
                Due.holds(m.getName() + " takes ints", type == int.class);
            }
            got.add(m.getReturnType() + " " + m.getName() + " " + m.getParameterCount());
            names.add(m.getName());
        }
        Due.holds("the face is " + due + ", got " + got, due.equals(got));
        for (Class<?> inside : SelfishTown.class.getDeclaredClasses()) {
            for (Method m : inside.getDeclaredMethods()) {
                Due.holds(m + " bears no public name", !names.contains(m.getName()));
            }
        }
        for (Method m : SelfishTown.class.getDeclaredMethods()) {
            boolean hidden = Modifier.isPrivate(m.getModifiers());
            Due.holds(m + " bears no public name", !hidden || !names.contains(m.getName()));
        }
        Due.holds("the class is public and final", SelfishTown.class.getModifiers() == (Modifier.PUBLIC | Modifier.FINAL));
        Constructor<?>[] made = SelfishTown.class.getDeclaredConstructors();
        Due.is("constructors", made.length, 1);
        Due.holds("a public constructor without parameters",
            Modifier.isPublic(made[0].getModifiers()) && made[0].getParameterCount() == 0);
    }

    private static void constants() throws IllegalAccessException {
        Set<String> due = new TreeSet<>(Set.of(CONSTANTS));
        Set<String> got = new TreeSet<>();
        for (Field f : SelfishTown.class.getDeclaredFields()) {
            if (Modifier.isStatic(f.getModifiers())) {
                Due.holds(f + " is final", Modifier.isFinal(f.getModifiers()));
            }
            if (!Modifier.isPrivate(f.getModifiers())) {
                got.add(f.getName() + " " + f.getInt(null));
            }
        }
        Due.holds("the constants are " + due + ", got " + got, due.equals(got));
    }

    private static void nested() {
        Class<?>[] inside = SelfishTown.class.getDeclaredClasses();
        Due.holds("few classes", inside.length + 1 <= MOST_CLASSES);
        for (Class<?> c : inside) {
            Due.holds(c + " is static and not public",
                Modifier.isStatic(c.getModifiers()) && !Modifier.isPublic(c.getModifiers()));
            int fields = 0;
            for (Field f : c.getDeclaredFields()) {
                fields += Modifier.isStatic(f.getModifiers()) ? 0 : 1;
            }
            Due.holds(c + " has few fields", fields <= MOST_FIELDS);
            for (Method m : c.getDeclaredMethods()) {
                Due.holds(m + " has few parameters", m.getParameterCount() <= MOST_PARAMETERS);
            }
        }
    }

    private static void text(String text) {
        String code = text.replaceAll("(?s)/\\*.*?\\*/", "").replaceAll("//[^\n]*", "");
        for (String word : FORBIDDEN) {
            Due.holds("no " + word, !Pattern.compile(word).matcher(code).find());
        }
        Due.holds("imports nothing but Arrays and lists",
            !Pattern.compile("import (?!java\\.util\\.(Arrays|ArrayList|List);)").matcher(code).find());
        for (int i = 0; i < text.length(); i++) {
            Due.holds("sign " + i + " is plain", text.charAt(i) < 128);
        }
        methodsAreShort(text.split("\n"));
        sections(text.split("\n"));
    }

    /** "Ahead of the calls .. the interface says: ---- .." */
    private static void sections(String[] lines) {
        StringBuilder got = new StringBuilder();
        String heading = "";
        Pattern call = Pattern.compile("    public (?:int|long) (\\w+)\\(.*");
        for (String line : lines) {
            if (line.startsWith("    // ---- ")) {
                heading = line.substring("    // ---- ".length()) + ":";
                continue;
            }
            Matcher it = call.matcher(line);
            if (it.matches()) {
                got.append(heading.isEmpty() ? "" : "\n" + heading).append(' ').append(it.group(1));
                heading = "";
            }
        }
        Due.same("what the interface says", got.toString(), "\n" + String.join("\n", SECTIONS));
    }

    /** A method begins with "{" at the end of a line that stands in a class, and ends with "}" below its first sign. */
    private static void methodsAreShort(String[] lines) {
        for (int i = 0; i < lines.length; i++) {
            String line = lines[i];
            String indent = line.substring(0, line.length() - line.stripLeading().length());
            if (!line.endsWith(") {") || indent.length() > 8) {
                continue;
            }
            int end = i + 1;
            while (end < lines.length && !lines[end].equals(indent + "}")) {
                end++;
            }
            Due.holds(line.strip() + " is short", end - i <= MOST_LINES);
        }
    }
}
