import java.io.IOException;
import java.lang.reflect.InvocationTargetException;
import java.lang.reflect.Method;
import java.nio.file.Files;
import java.nio.file.Path;
import java.util.HashMap;
import java.util.List;
import java.util.Map;
import java.util.Set;
import java.util.TreeSet;
import java.util.regex.Matcher;
import java.util.regex.Pattern;
import java.util.stream.Collectors;
import java.util.stream.Stream;

/** README.md: its examples answer as it says, it tells of every call, and it names the tests that there are. */
public final class ReadmeTest {
    private static final String MADE = "SoundBoard b = new SoundBoard();";
    private static final Pattern CALL = Pattern.compile("b\\.(\\w+)\\(([^()]*)\\); *// (-?\\d+|[A-Z]+)(:.*)?");
    private static final Map<String, Integer> NAMED = Map.of("NONE", SoundBoard.NONE, "BAD", SoundBoard.BAD,
        "NO", SoundBoard.NO, "FULL", SoundBoard.FULL, "HOT", SoundBoard.HOT);

    private static final Map<String, Method> CALLS = new HashMap<>();

    public static void main(String[] args) throws IOException, ReflectiveOperationException {
        for (Method method : SoundBoard.class.getMethods()) {
            if (method.getDeclaringClass() == SoundBoard.class) {
                CALLS.put(method.getName(), method);
            }
        }
        String page = Files.readString(Path.of("README.md"));
        examples(page);
        for (String call : CALLS.keySet()) {
            Check.holds("README tells of " + call, page.contains("`" + call + "`"));
        }
        tests(page);
        Check.end("ReadmeTest");
    }

    private static void examples(String page) throws ReflectiveOperationException {
        Set<String> shown = new TreeSet<>();
        Matcher blocks = Pattern.compile("```java\n(.*?)```", Pattern.DOTALL).matcher(page);
        while (blocks.find()) {
            List<String> lines = blocks.group(1).lines().toList();
            Check.holds("an example begins with a new board: " + lines.get(0), lines.get(0).equals(MADE));
            SoundBoard b = new SoundBoard();
            for (String line : lines.subList(1, lines.size())) {
                Matcher call = CALL.matcher(line);
                boolean isCall = call.matches() && CALLS.containsKey(call.group(1));
                Check.holds("a line of an example is a call with its answer: " + line, isCall);
                if (isCall) {
                    shown.add(call.group(1));
                    Check.due("README: " + line, answer(b, call.group(1), call.group(2)), told(call.group(3)));
                }
            }
        }
        Check.due("every call has an example", shown.size(), CALLS.size());
    }

    private static long answer(SoundBoard b, String name, String numbers)
            throws IllegalAccessException, InvocationTargetException {
        String[] told = numbers.isEmpty() ? new String[0] : numbers.split(", ");
        Object[] values = new Object[told.length];
        for (int n = 0; n < told.length; n++) {
            boolean isTruth = told[n].equals("true") || told[n].equals("false");
            values[n] = isTruth ? (Object) Boolean.valueOf(told[n]) : (Object) Integer.valueOf(told[n]);
        }
        return ((Number) CALLS.get(name).invoke(b, values)).longValue();
    }

    private static long told(String answer) {
        Integer named = NAMED.get(answer);
        return named == null ? Long.parseLong(answer) : named;
    }

    private static void tests(String page) throws IOException {
        Set<String> named = new TreeSet<>();
        Matcher names = Pattern.compile("`(\\w+Test)`").matcher(page);
        while (names.find()) {
            named.add(names.group(1));
        }
        try (Stream<Path> files = Files.list(Path.of("src/test/java"))) {
            Set<String> there = files.map(file -> file.getFileName().toString()).filter(name -> name.endsWith("Test.java"))
                .map(name -> name.replace(".java", "")).collect(Collectors.toCollection(TreeSet::new));
            Check.holds("README names the tests " + there + ", not " + named, named.equals(there));
        }
        Check.holds(".ci/run can be run", page.contains("\n.ci/run\n") && Files.isExecutable(Path.of(".ci/run")));
    }
}
