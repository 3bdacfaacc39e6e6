import java.io.IOException;
import java.lang.reflect.InvocationTargetException;
import java.lang.reflect.Method;
import java.lang.reflect.Modifier;
import java.nio.file.Files;
import java.nio.file.Path;
import java.util.Set;
import java.util.TreeSet;
import java.util.regex.Matcher;
import java.util.regex.Pattern;
import java.util.stream.Collectors;
import java.util.stream.Stream;

/** README.md: its lines of Java, one after the other, answer what stands behind them; its table has every test. */
public final class ReadmeTest {
    private static final String NEW = "TwoTimesTable table = new TwoTimesTable();";
    private static final Pattern BLOCK = Pattern.compile("(?s)```java\n(.*?)```");
    private static final Pattern CALL = Pattern.compile(
            "table\\.(\\w+)\\(([-0-9, ]*)\\); +// (throws \\w+|true|false|NONE|-?\\d+)(:.*)?");
    private static final Pattern LISTED = Pattern.compile("(?m)^\\| (\\w+Test) \\|");

    private static final Set<String> shown = new TreeSet<>();
    private static final Set<String> outcomes = new TreeSet<>();
    private static TwoTimesTable table = null;

    public static void main(String[] args) throws IOException, IllegalAccessException {
        String readme = Files.readString(Path.of("README.md"));
        Matcher block = BLOCK.matcher(readme);
        while (block.find()) {
            for (String line : block.group(1).split("\n")) {
                look(line);
            }
        }
        everyCallIsShown();
        everyTestIsListed(readme);
        Check.end("ReadmeTest");
    }

    private static void look(String line) throws IllegalAccessException {
        if (line.equals(NEW)) {
            table = new TwoTimesTable();
            return;
        }
        Matcher call = CALL.matcher(line);
        boolean read = line.isEmpty() || call.matches();
        Check.holds("can be read: " + line, read);
        if (read && !line.isEmpty()) {
            String due = call.group(3).equals("NONE") ? Integer.toString(TwoTimesTable.NONE) : call.group(3);
            String got = answer(call.group(1), call.group(2));
            Check.same(line, due, got);
            shown.add(call.group(1));
            outcomes.add(call.group(3));
        }
    }

    private static String answer(String name, String words) throws IllegalAccessException {
        Object[] values = Stream.of(words.split(", *")).filter(w -> !w.isEmpty()).map(Integer::valueOf).toArray();
        for (Method m : TwoTimesTable.class.getDeclaredMethods()) {
            if (m.getName().equals(name) && m.getParameterCount() == values.length) {
                try {
                    return m.invoke(table, values).toString();
                } catch (InvocationTargetException e) {
                    return "throws " + e.getCause().getClass().getSimpleName();
                }
            }
        }
        return "no such call";
    }

    private static void everyCallIsShown() {
        Set<String> face = new TreeSet<>();
        for (Method m : TwoTimesTable.class.getDeclaredMethods()) {
            if (Modifier.isPublic(m.getModifiers())) {
                face.add(m.getName());
            }
        }
        Check.same("calls that are shown", face.toString(), shown.toString());
        for (String kind : new String[] {"NONE", "true", "false", "throws IllegalArgumentException",
            "throws IllegalStateException", "throws IndexOutOfBoundsException", "throws NoSuchElementException"}) {
            Check.holds("shown: " + kind, outcomes.contains(kind));
        }
    }

    private static void everyTestIsListed(String readme) throws IOException {
        Set<String> listed = new TreeSet<>();
        Matcher line = LISTED.matcher(readme);
        while (line.find()) {
            listed.add(line.group(1));
        }
        try (Stream<Path> files = Files.list(Path.of("src/test/java"))) {
            Set<String> there = files.map(f -> f.getFileName().toString().replace(".java", ""))
                    .filter(f -> f.endsWith("Test")).collect(Collectors.toCollection(TreeSet::new));
            Check.same("tests that are listed", there.toString(), listed.toString());
        }
    }
}
