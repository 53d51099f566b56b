import java.io.IOException;
import java.lang.reflect.InvocationTargetException;
import java.lang.reflect.Method;
import java.nio.file.Files;
import java.nio.file.Path;
import java.util.ArrayList;
import java.util.HashMap;
import java.util.List;
import java.util.Map;
import java.util.Set;
import java.util.TreeSet;
import java.util.regex.Matcher;
import java.util.regex.Pattern;
import java.util.stream.Collectors;
import java.util.stream.Stream;

/** What README.md shows must hold: it is run line by line, from the directory in which README.md lies. */
final class ReadmeTest extends Suite {
    private static final Pattern MAKING = Pattern.compile("CircuitSimulator circuit = new CircuitSimulator\\(\\);");
    private static final Pattern CALL = Pattern.compile(
            "(?:int (\\w+) = )?circuit\\.(\\w+)\\(([^)]*)\\); +// (-?\\d+|throws \\w+)(?::.*)?");
    private static final Pattern TEST_NAME = Pattern.compile("`(\\w+Test)`");

    private final List<String> lines;
    private final Set<String> shown = new TreeSet<>();
    private final Map<String, Integer> names = new HashMap<>();
    private CircuitSimulator circuit;

    private ReadmeTest(List<String> lines) {
        this.lines = lines;
    }

    public static void main(String[] args) throws IOException, ReflectiveOperationException {
        run(new ReadmeTest(Files.readAllLines(Path.of("README.md"))));
    }

    void eachCallAnswersWhatStandsBehindIt() throws ReflectiveOperationException {
        for (List<String> block : blocks()) {
            circuit = null;
            names.clear();
            for (String line : block) {
                runLine(line);
            }
        }
        Set<String> face = Stream.of(CircuitSimulator.class.getMethods())
                .filter(method -> method.getDeclaringClass() == CircuitSimulator.class)
                .map(Method::getName).collect(Collectors.toCollection(TreeSet::new));
        check.equal("the calls that are shown", face, shown);
    }

    void eachTestIsNamed() throws IOException {
        Set<String> named = new TreeSet<>();
        Matcher found = TEST_NAME.matcher(String.join("\n", lines));
        while (found.find()) {
            named.add(found.group(1) + ".java");
        }
        try (Stream<Path> files = Files.list(Path.of("src", "test", "java"))) {
            Set<String> there = files.map(file -> file.getFileName().toString())
                    .filter(name -> name.endsWith("Test.java")).collect(Collectors.toCollection(TreeSet::new));
            check.equal("the tests that are named", there, named);
        }
    }

    void theScriptCanBeRun() {
        check.equal(".ci/run is named", true, lines.contains("    .ci/run"));
        check.equal(".ci/run may be run", true, Files.isExecutable(Path.of(".ci", "run")));
    }

    private List<List<String>> blocks() {
        List<List<String>> blocks = new ArrayList<>();
        boolean inside = false;
        for (String line : lines) {
            if (line.startsWith("```")) {
                inside = line.equals("```java");
                if (inside) {
                    blocks.add(new ArrayList<>());
                }
            } else if (inside) {
                blocks.get(blocks.size() - 1).add(line);
            }
        }
        return blocks;
    }

    private void runLine(String line) throws ReflectiveOperationException {
        if (MAKING.matcher(line).matches()) {
            circuit = new CircuitSimulator();
            return;
        }
        Matcher call = CALL.matcher(line);
        if (!call.matches()) {
            check.fail("no call with its answer: " + line);
            return;
        }
        shown.add(call.group(2));
        String got = outcome(call.group(2), call.group(3));
        check.equal(line, call.group(4), got);
        if (call.group(1) != null && !got.startsWith("throws")) {
            names.put(call.group(1), Integer.valueOf(got));
        }
    }

    private String outcome(String name, String listed) throws ReflectiveOperationException {
        Object[] numbers = Stream.of(listed.split(", *")).filter(text -> !text.isEmpty())
                .map(text -> names.containsKey(text) ? names.get(text) : Integer.valueOf(text)).toArray();
        Class<?>[] types = Stream.of(numbers).map(number -> int.class).toArray(Class<?>[]::new);
        try {
            return String.valueOf(CircuitSimulator.class.getMethod(name, types).invoke(circuit, numbers));
        } catch (InvocationTargetException e) {
            return "throws " + e.getCause().getClass().getSimpleName();
        }
    }
}
