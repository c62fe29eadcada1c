import java.io.IOException;
import java.lang.reflect.Method;
import java.lang.reflect.Modifier;
import java.nio.file.Files;
import java.nio.file.Path;
import java.util.HashMap;
import java.util.List;
import java.util.Map;
import java.util.Set;
import java.util.TreeSet;
import java.util.regex.Matcher;
import java.util.regex.Pattern;
import java.util.stream.Collectors;
import java.util.stream.Stream;

/** The calls that README.md shows answer what stands behind them, and none of the face is missing. */
public final class ReadmeTest {
    private static final String MADE = "CargoTanks ship = new CargoTanks();";
    private static final Pattern CALL = Pattern.compile(
            "(?:int (\\w+) = )?ship\\.(\\w+)\\(([^()]*)\\);\\s+// (-?\\d+|[A-Z]+)(?::.*)?");

    private final CargoTanks ship = new CargoTanks();
    private final Map<String, Integer> names = new HashMap<>();
    private final Set<String> shown = new TreeSet<>();
    private int wrong = 0;

    private ReadmeTest() {
    }

    public static void main(String[] args) throws IOException, ReflectiveOperationException {
        int wrong = new ReadmeTest().run(Files.readString(Path.of("README.md")));
        System.out.println(wrong == 0 ? "README.md holds" : wrong + " things in README.md do not hold");
        if (wrong != 0) {
            System.exit(1);
        }
    }

    private int run(String text) throws IOException, ReflectiveOperationException {
        Matcher block = Pattern.compile("(?s)```java\n(.*?)```").matcher(text);
        check(block.find(), "it shows calls");
        List<String> lines = block.group(1).lines().filter(line -> !line.isBlank()).toList();
        check(lines.get(0).equals(MADE), "it makes an object first");
        for (String line : lines.subList(1, lines.size())) {
            if (!line.startsWith("//")) {
                tryLine(line);
            }
        }
        check(shown.equals(face()), "it shows each call: " + shown);
        check(text.contains(".ci/run"), "it says how to run the tests");
        testsAreNamed(text);
        return wrong;
    }

    private void check(boolean holds, String what) {
        if (!holds) {
            wrong++;
            System.out.println("README.md: not as due: " + what);
        }
    }

    private static Set<String> face() {
        return Stream.of(CargoTanks.class.getDeclaredMethods())
                .filter(m -> Modifier.isPublic(m.getModifiers())).map(Method::getName)
                .collect(Collectors.toCollection(TreeSet::new));
    }

    private void testsAreNamed(String text) throws IOException {
        try (Stream<Path> files = Files.list(Path.of("src/test/java"))) {
            files.map(file -> file.getFileName().toString().replace(".java", ""))
                    .forEach(name -> check(text.contains("`" + name + "`:"), "it names " + name));
        }
    }

    private void tryLine(String line) throws ReflectiveOperationException {
        Matcher parts = CALL.matcher(line);
        if (!parts.matches()) {
            check(false, "a call with its answer: " + line);
            return;
        }
        int got = answer(parts.group(2), parts.group(3));
        check(got == number(parts.group(4)), line + " answered " + got);
        shown.add(parts.group(2));
        if (parts.group(1) != null) {
            names.put(parts.group(1), got);
        }
    }

    private int answer(String name, String told) throws ReflectiveOperationException {
        String[] words = told.isEmpty() ? new String[0] : told.split(", ");
        for (Method method : CargoTanks.class.getDeclaredMethods()) {
            if (method.getName().equals(name) && method.getParameterCount() == words.length) {
                Object[] values = Stream.of(words).map(this::value).toArray();
                return (Integer) method.invoke(ship, values);
            }
        }
        throw new NoSuchMethodException(name + "(" + told + ")");
    }

    private Object value(String word) {
        if (word.equals("true") || word.equals("false")) {
            return word.equals("true");
        }
        return Stream.of(word.split(" \\+ ")).mapToInt(this::number).sum();
    }

    private int number(String word) {
        return switch (word) {
            case "UNKNOWN" -> CargoTanks.UNKNOWN;
            case "OUTSIDE" -> CargoTanks.OUTSIDE;
            case "STATE" -> CargoTanks.STATE;
            case "FULL" -> CargoTanks.FULL;
            case "NONE" -> CargoTanks.NONE;
            default -> names.containsKey(word) ? names.get(word) : Integer.parseInt(word);
        };
    }
}
