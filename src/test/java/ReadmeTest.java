import java.io.IOException;
import java.lang.reflect.Method;
import java.nio.file.Files;
import java.nio.file.Path;
import java.util.List;
import java.util.Set;
import java.util.TreeSet;
import java.util.regex.Matcher;
import java.util.regex.Pattern;

/** The calls that README.md shows answer what it says, by the class and by the slow telling of the document. */
public final class ReadmeTest {
    private static final Pattern NEW_OFFICE = Pattern.compile("PointsOffice office = new PointsOffice\\(\\);");
    private static final Pattern CALL = Pattern.compile("office\\.(\\w+)\\(([^)]*)\\);\\s+// (-?\\d+|[A-Z]+)(: .+)?");
    private static final Pattern MEANING = Pattern.compile("\\| `([A-Z]+)` \\| (-?\\d+) \\| .+ \\|");
    private static final int CALLS_OF_ONE_OFFICE = 512;
    private static final Check check = new Check();

    private final Set<String> shownCalls = new TreeSet<>();
    private final Set<String> shownAnswers = new TreeSet<>();
    private PointsOffice office;
    private SlowOffice slow;
    private int calls;

    public static void main(String[] args) throws IOException, ReflectiveOperationException {
        List<String> lines = Files.readAllLines(Path.of(System.getProperty("project.root", "."), "README.md"));
        ReadmeTest test = new ReadmeTest();
        test.runBlocks(lines);
        test.everyCallIsShown();
        constantsAreAsTold(lines);
        testsAreNamed(lines);
        check.finish();
    }

    private void runBlocks(List<String> lines) throws ReflectiveOperationException {
        boolean inJava = false;
        for (int i = 0; i < lines.size(); i++) {
            String line = lines.get(i);
            check.part("README.md line " + (i + 1));
            if (line.startsWith("```")) {
                inJava = line.equals("```java");
                office = null;
            } else if (inJava) {
                runLine(line);
            }
        }
    }

    private void runLine(String line) throws ReflectiveOperationException {
        Matcher call = CALL.matcher(line);
        if (NEW_OFFICE.matcher(line).matches()) {
            office = new PointsOffice();
            slow = new SlowOffice();
            calls = 0;
        } else if (call.matches() && office != null) {
            calls++;
            check.isTrue("no more calls than one office is good for", calls <= CALLS_OF_ONE_OFFICE);
            int[] numbers = numbersOf(call.group(2));
            int due = valueOf(call.group(3));
            check.due(line, Calls.answer(office, call.group(1), numbers), due);
            check.due("the slow office: " + line, Calls.answer(slow, call.group(1), numbers), due);
            shownCalls.add(call.group(1));
            shownAnswers.add(call.group(3));
        } else {
            check.isTrue("a call with its answer: " + line, false);
        }
    }

    private static int[] numbersOf(String arguments) {
        if (arguments.isEmpty()) {
            return new int[0];
        }
        String[] parts = arguments.split(", ");
        int[] numbers = new int[parts.length];
        for (int i = 0; i < parts.length; i++) {
            boolean letter = parts[i].length() == 3 && parts[i].startsWith("'") && parts[i].endsWith("'");
            numbers[i] = letter ? parts[i].charAt(1) : Integer.parseInt(parts[i]);
        }
        return numbers;
    }

    private static int valueOf(String answer) throws ReflectiveOperationException {
        boolean name = Character.isUpperCase(answer.charAt(0));
        return name ? PointsOffice.class.getField(answer).getInt(null) : Integer.parseInt(answer);
    }

    private void everyCallIsShown() {
        check.part("README.md shows");
        for (Method method : Calls.ofTheFace()) {
            check.isTrue(method.getName(), shownCalls.contains(method.getName()));
        }
        for (String answer : new String[] {"BAD", "NO", "FULL", "NONE", "ZERO"}) {
            check.isTrue(answer, shownAnswers.contains(answer));
        }
    }

    private static void constantsAreAsTold(List<String> lines) throws ReflectiveOperationException {
        check.part("README.md tells the meaning of");
        Set<String> told = new TreeSet<>();
        for (String line : lines) {
            Matcher row = MEANING.matcher(line);
            if (row.matches()) {
                told.add(row.group(1));
                check.due(row.group(1), valueOf(row.group(1)), Integer.parseInt(row.group(2)));
            }
        }
        check.isTrue("all five: " + told, told.equals(new TreeSet<>(Set.of("BAD", "NO", "FULL", "NONE", "ZERO"))));
    }

    /** So that the page forgets no test that is added and names none that is gone. */
    private static void testsAreNamed(List<String> lines) throws IOException {
        check.part("README.md names the tests");
        Set<String> named = new TreeSet<>();
        Matcher name = Pattern.compile("`(\\w+Test)`").matcher(String.join("\n", lines));
        while (name.find()) {
            named.add(name.group(1));
        }
        Set<String> there = new TreeSet<>();
        Path tests = Path.of(System.getProperty("project.root", "."), "src", "test", "java");
        try (var files = Files.newDirectoryStream(tests, "*Test.java")) {
            for (Path file : files) {
                there.add(file.getFileName().toString().replace(".java", ""));
            }
        }
        check.isTrue(named + ", there are " + there, named.equals(there));
    }
}
