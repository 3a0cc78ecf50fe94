import java.io.IOException;
import java.lang.reflect.Method;
import java.nio.file.Files;
import java.nio.file.Path;
import java.util.ArrayList;
import java.util.List;
import java.util.Set;
import java.util.TreeSet;
import java.util.regex.Matcher;
import java.util.regex.Pattern;

/** README.md: its calls answer what it says, it has every call of the face, and its command can be run. */
public final class ReadmeTest {
    private static final String MADE = "SelfishTown town = new SelfishTown();";
    private static final Pattern CALL = Pattern.compile("town\\.(\\w+)\\(([^)]*)\\); +// (-?\\d+|[A-Z]+)(: .+)?");
    private static final Pattern ROW = Pattern.compile("\\| `(\\w+\\([^)]*\\))`( \\*)? \\| .+ \\|");
    private static final Pattern PUBLIC = Pattern.compile("(?m)^    public (?:int|long) (\\w+\\([^)]*\\)) \\{$");
    /** Promise 33: the calls that are CHANGES. */
    private static final Set<String> CHANGES = Set.of("road", "open", "table", "enter", "copy", "toll", "driver",
        "choose", "best", "rest", "habit", "better", "queue", "teach");

    public static void main(String[] args) throws IOException, ReflectiveOperationException {
        Path main = Path.of(args[0]).toAbsolutePath();
        Path root = main.getParent().getParent().getParent().getParent();
        String page = Files.readString(root.resolve("README.md"));
        List<String> example = block(page, "java");
        example(example);
        faceIsThere(page, Files.readString(main));
        commandIsThere(block(page, "sh"), root);
        testsAreThere(page, main.getParent().getParent().getParent().resolve("test/java"));
        Due.end();
    }

    /** The lines of the first block of that kind. */
    private static List<String> block(String page, String kind) {
        String begin = "\n```" + kind + "\n";
        int from = page.indexOf(begin);
        int to = from < 0 ? -1 : page.indexOf("\n```", from + begin.length() - 1);
        Due.holds("there is a block of " + kind, to > 0);
        return to > 0 ? List.of(page.substring(from + begin.length(), to).split("\n")) : List.of();
    }

    private static void example(List<String> lines) throws ReflectiveOperationException {
        Due.holds("an object is made first", !lines.isEmpty() && lines.get(0).equals(MADE));
        SelfishTown town = new SelfishTown();
        for (int i = 1; i < lines.size(); i++) {
            Matcher call = CALL.matcher(lines.get(i));
            Due.holds("a call with its answer: " + lines.get(i), call.matches());
            if (call.matches()) {
                Due.is("README: " + lines.get(i), answer(town, call.group(1), call.group(2)), due(call.group(3)));
            }
        }
    }

    private static long answer(SelfishTown town, String name, String numbers) throws ReflectiveOperationException {
        String[] parts = numbers.isEmpty() ? new String[0] : numbers.split(", ");
        Class<?>[] types = new Class<?>[parts.length];
        Object[] values = new Object[parts.length];
        for (int i = 0; i < parts.length; i++) {
            types[i] = int.class;
            values[i] = Integer.valueOf(parts[i]);
        }
        Method method = SelfishTown.class.getMethod(name, types);
        return ((Number) method.invoke(town, values)).longValue();
    }

    private static long due(String told) throws ReflectiveOperationException {
        return Character.isLetter(told.charAt(0)) ? SelfishTown.class.getField(told).getInt(null) : Long.parseLong(told);
    }

    /** The table has the calls of the face, in their order, with the names that their numbers have there. */
    private static void faceIsThere(String page, String source) {
        List<String> due = new ArrayList<>();
        Matcher method = PUBLIC.matcher(source);
        while (method.find()) {
            due.add(method.group(1).replace("int ", ""));
        }
        List<String> got = new ArrayList<>();
        Set<String> changes = new TreeSet<>();
        for (String line : page.split("\n")) {
            Matcher row = ROW.matcher(line);
            if (row.matches()) {
                got.add(row.group(1));
                if (row.group(2) != null) {
                    changes.add(row.group(1).replaceAll("\\(.*", ""));
                }
            }
        }
        Due.is("calls of the face", due.size(), 33);
        Due.same("calls in README.md", got.toString(), due.toString());
        Due.same("changes in README.md", changes.toString(), new TreeSet<>(CHANGES).toString());
    }

    private static void commandIsThere(List<String> lines, Path root) {
        Due.same("how to run the tests", lines.toString(), "[.ci/run]");
        for (String line : lines) {
            Due.holds(line + " can be run", Files.isExecutable(root.resolve(line)));
        }
    }

    /** A test that README.md does not tell of, or that is told and not there, is a page gone stale. */
    private static void testsAreThere(String page, Path tests) throws IOException {
        Set<String> there = new TreeSet<>();
        try (var files = Files.list(tests)) {
            files.map(f -> f.getFileName().toString().replace(".java", "")).forEach(there::add);
        }
        for (String name : there) {
            Due.holds("README.md tells of " + name, page.contains("`" + name + "`"));
        }
        Matcher told = Pattern.compile("`(\\w+Test)`").matcher(page);
        while (told.find()) {
            Due.holds(told.group(1) + " is there", there.contains(told.group(1)));
        }
    }
}
