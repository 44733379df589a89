import java.io.IOException;
import java.lang.reflect.Method;
import java.nio.file.Files;
import java.nio.file.Path;
import java.util.List;
import java.util.Set;
import java.util.TreeSet;
import java.util.regex.Matcher;
import java.util.regex.Pattern;
import java.util.stream.Collectors;
import java.util.stream.Stream;

/** README.md: its calls answer what it tells behind them, and it names the test files that there are. */
public final class ReadmeTest {
    private static final Due DUE = new Due("ReadmeTest");
    private static final String MAKES = "SquareRooms rooms = new SquareRooms();";
    private static final Pattern CALL = Pattern.compile("rooms\\.(\\w+)\\(([^)]*)\\);");
    private static final Pattern ANSWER = Pattern.compile("// (-?\\d+)\\b.*");
    private static final int MOST_CALLS = 512;

    private static SquareRooms rooms;
    private static int calls = 0;

    public static void main(String[] args) throws IOException, ReflectiveOperationException {
        Path root = Path.of(System.getProperty("project.root", "."));
        List<String> readme = Files.readAllLines(root.resolve("README.md"));
        int compared = 0;
        boolean isCode = false;
        for (String line : readme) {
            boolean isFence = line.startsWith("```");
            if (isCode && !isFence) {
                compared += lineAnswers(line);
            }
            isCode = isFence ? !isCode : isCode;
        }
        DUE.holds("README.md has examples", compared > 0 && !isCode);
        DUE.holds("an object is good for so many calls: " + calls, calls <= MOST_CALLS);
        namesTests(String.join("\n", readme), root.resolve("src/test/java"));
        DUE.end();
    }

    /** Does all calls of a line; the answer of the last one is told behind them. */
    private static int lineAnswers(String line) throws ReflectiveOperationException {
        int comment = line.indexOf("// ");
        String code = (comment < 0 ? line : line.substring(0, comment)).trim();
        if (code.equals(MAKES)) {
            rooms = new SquareRooms();
            calls = 0;
            return 0;
        }
        DUE.holds("not calls alone: " + line, CALL.matcher(code).replaceAll("").isBlank());
        Matcher call = CALL.matcher(code);
        long got = 0;
        while (call.find()) {
            got = answer(call.group(1), call.group(2));
        }
        Matcher told = ANSWER.matcher(comment < 0 ? "" : line.substring(comment));
        boolean isTold = told.matches();
        DUE.holds("no answer is told: " + line, isTold);
        if (isTold) {
            DUE.is(line, got, Long.parseLong(told.group(1)));
        }
        return 1;
    }

    private static long answer(String name, String arguments) throws ReflectiveOperationException {
        String[] told = arguments.isBlank() ? new String[0] : arguments.split(", ");
        Class<?>[] types = new Class<?>[told.length];
        Object[] numbers = new Object[told.length];
        for (int i = 0; i < told.length; i++) {
            types[i] = int.class;
            numbers[i] = told[i].startsWith("'") ? (int) told[i].charAt(1) : Integer.parseInt(told[i]);
        }
        Method method = SquareRooms.class.getMethod(name, types);
        calls++;
        return ((Number) method.invoke(rooms, numbers)).longValue();
    }

    private static void namesTests(String readme, Path folder) throws IOException {
        Set<String> files;
        try (Stream<Path> found = Files.list(folder)) {
            files = found.map(file -> file.getFileName().toString().replace(".java", ""))
                .collect(Collectors.toCollection(TreeSet::new));
        }
        Set<String> named = new TreeSet<>();
        Matcher name = Pattern.compile("`(\\w+)`").matcher(readme.substring(readme.indexOf("- `")));
        while (name.find()) {
            named.add(name.group(1));
        }
        DUE.holds("README.md names " + named + ", there are " + files, named.equals(files));
    }
}
