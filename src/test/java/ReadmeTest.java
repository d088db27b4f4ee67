import java.io.IOException;
import java.lang.reflect.Method;
import java.nio.file.Files;
import java.nio.file.Path;
import java.util.ArrayList;
import java.util.List;
import java.util.Set;
import java.util.TreeSet;
import java.util.regex.Matcher;
import java.util.regex.Pattern;
import java.util.stream.Stream;

/** README.md: its example answers what it says, and the command and the tests that it names are there. */
public final class ReadmeTest {
    private static final Path README = Path.of("README.md");
    private static final Path TESTS = Path.of("src/test/java");
    private static final Pattern CALL = Pattern.compile("judge\\.(\\w+)\\(([^)]*)\\);\\s*// (-?\\d+)(, \\w+)?: .+");
    private static final Pattern COMMAND = Pattern.compile("^ {4}(\\S+)$", Pattern.MULTILINE);
    private static final Pattern TEST = Pattern.compile("`(\\w+Test)`");

    public static void main(String[] args) throws Exception {
        Checker checker = new Checker();
        String readme = Files.readString(README);
        example(checker, readme);
        command(checker, readme);
        checker.due("tests named " + named(readme) + ", tests there " + there(), named(readme).equals(there()) ? 0 : 1, 0);
        checker.finish();
    }

    private static void example(Checker checker, String readme) throws Exception {
        AlgolJudge judge = new AlgolJudge();
        Set<String> called = new TreeSet<>();
        for (String line : exampleLines(readme)) {
            Matcher call = CALL.matcher(line);
            if (!call.matches()) {
                checker.due("a line of the example without an answer: " + line, 1, 0);
                continue;
            }
            called.add(call.group(1));
            int due = Integer.parseInt(call.group(3));
            checker.due(line, answer(judge, call.group(1), call.group(2)), due);
            checker.due("the constant in " + line, constant(call.group(4), due), due);
        }
        checker.due("methods in the example: " + called, called.size(), 6);
    }

    /** The lines of the first java block that call the object. */
    private static List<String> exampleLines(String readme) {
        int open = readme.indexOf("```java\n");
        int close = readme.indexOf("```", open + 3);
        List<String> lines = new ArrayList<>();
        for (String line : readme.substring(open, close).split("\n")) {
            if (!line.isEmpty() && !line.startsWith("```") && !line.equals("AlgolJudge judge = new AlgolJudge();")) {
                lines.add(line);
            }
        }
        return lines;
    }

    private static int answer(AlgolJudge judge, String name, String list) throws Exception {
        String[] words = list.isEmpty() ? new String[0] : list.split(", ");
        Object[] values = new Object[words.length];
        for (int i = 0; i < words.length; i++) {
            values[i] = Integer.decode(words[i]);
        }
        for (Method method : AlgolJudge.class.getMethods()) {
            if (method.getName().equals(name) && method.getParameterCount() == values.length) {
                return (Integer) method.invoke(judge, values);
            }
        }
        throw new IllegalArgumentException("no method " + name + " with " + values.length + " parameters");
    }

    /** What a constant that the example names stands for; where it names none, what is due. */
    private static int constant(String named, int due) throws Exception {
        return named == null ? due : AlgolJudge.class.getField(named.substring(2)).getInt(null);
    }

    private static void command(Checker checker, String readme) {
        Matcher command = COMMAND.matcher(readme);
        String script = command.find() ? command.group(1) : "no command";
        checker.due(script + " can be run", Files.isExecutable(Path.of(script)) ? 1 : 0, 1);
    }

    private static Set<String> named(String readme) {
        Set<String> names = new TreeSet<>();
        Matcher test = TEST.matcher(readme);
        while (test.find()) {
            names.add(test.group(1));
        }
        return names;
    }

    private static Set<String> there() throws IOException {
        Set<String> names = new TreeSet<>();
        try (Stream<Path> files = Files.list(TESTS)) {
            files.map(file -> file.getFileName().toString())
                .filter(name -> name.endsWith("Test.java"))
                .forEach(name -> names.add(name.substring(0, name.length() - ".java".length())));
        }
        return names;
    }
}
