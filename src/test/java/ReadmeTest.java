import java.lang.reflect.Method;
import java.nio.file.Files;
import java.nio.file.Path;
import java.util.ArrayList;
import java.util.List;
import java.util.Map;
import java.util.Set;
import java.util.TreeSet;
import java.util.regex.Matcher;
import java.util.regex.Pattern;
import java.util.stream.Stream;

/** README.md: its examples answer as it says, it shows every call, and names every file of the tests and no other. */
final class ReadmeTest {
    private static final Check check = new Check();
    private static final Pattern ANSWER = Pattern.compile("x\\.(\\w+)\\(([-0-9, ]*)\\); +// (-?[0-9]+|[A-Z]+)(:.*)?");
    private static final Pattern TELL = Pattern.compile("tell\\(x, \"(.*)\"\\);");
    private static final Pattern TEST_NAME = Pattern.compile("`(\\w+Test)`");
    private static final Map<String, Integer> REFUSALS =
            Map.of("NONE", Check.NONE, "BAD", Check.BAD, "STATE", Check.STATE, "FULL", Check.FULL);

    private final List<String> lines;
    private final Map<String, Method> face;
    private final Set<String> shown = new TreeSet<>();
    private DebtFronts x;
    private int calls;

    private ReadmeTest(List<String> lines) {
        this.lines = lines;
        face = new java.util.TreeMap<>();
        for (Method m : DebtFronts.class.getDeclaredMethods()) {
            if (java.lang.reflect.Modifier.isPublic(m.getModifiers())) {
                face.put(m.getName(), m);
            }
        }
    }

    public static void main(String[] args) throws Exception {
        Path root = root();
        ReadmeTest test = new ReadmeTest(Files.readAllLines(root.resolve("README.md")));
        test.examplesHold();
        test.everyCallIsShown();
        test.everyTestIsNamed(root.resolve("src/test/java"));
        check.end();
    }

    private static Path root() {
        String source = System.getProperty("debtfronts.source", "src/main/java/DebtFronts.java");
        return Path.of(source).toAbsolutePath().getParent().getParent().getParent().getParent();
    }

    private void examplesHold() throws Exception {
        boolean isExample = false;
        for (String line : lines) {
            if (line.startsWith("```")) {
                isExample = line.equals("```java");
            } else if (isExample && !line.isBlank()) {
                follow(line);
            }
        }
        check.isTrue("examples were seen: " + calls, calls > 40);
    }

    private void follow(String line) throws Exception {
        Matcher answer = ANSWER.matcher(line);
        Matcher tell = TELL.matcher(line);
        if (line.equals("DebtFronts x = new DebtFronts();")) {
            x = new DebtFronts();
        } else if (tell.matches()) {
            Check.feed(x, tell.group(1));
            shown.add("feed");
        } else if (answer.matches()) {
            String told = answer.group(3);
            Integer due = REFUSALS.containsKey(told) ? REFUSALS.get(told) : Integer.valueOf(told);
            check.due(line, answerOf(answer.group(1), answer.group(2)), due);
            shown.add(answer.group(1));
            calls++;
        } else {
            // the lines of tell() itself
            check.isTrue("an example's line is followed: " + line, line.startsWith(" ") || line.equals("}")
                    || line.startsWith("static void tell("));
        }
    }

    private int answerOf(String name, String numbers) throws Exception {
        List<Object> given = new ArrayList<>();
        for (String number : numbers.split(", *")) {
            if (!number.isBlank()) {
                given.add(Integer.valueOf(number.strip()));
            }
        }
        return (Integer) face.get(name).invoke(x, given.toArray());
    }

    private void everyCallIsShown() {
        check.isTrue("shown " + shown, shown.equals(face.keySet()));
    }

    private void everyTestIsNamed(Path folder) throws Exception {
        Set<String> there = new TreeSet<>();
        String text = String.join("\n", lines);
        try (Stream<Path> files = Files.list(folder)) {
            for (Path file : (Iterable<Path>) files::iterator) {
                String name = file.getFileName().toString().replace(".java", "");
                check.isTrue("README.md names " + name, text.contains("`" + name + "`"));
                there.add(name);
            }
        }
        Matcher named = TEST_NAME.matcher(text);
        while (named.find()) {
            check.isTrue("there is " + named.group(1), there.contains(named.group(1)));
        }
    }
}
