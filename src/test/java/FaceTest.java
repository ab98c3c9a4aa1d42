import java.io.IOException;
import java.lang.reflect.Constructor;
import java.lang.reflect.Field;
import java.lang.reflect.Method;
import java.lang.reflect.Modifier;
import java.nio.file.Files;
import java.nio.file.Path;
import java.util.Set;
import java.util.TreeSet;
import java.util.regex.Matcher;
import java.util.regex.Pattern;

/** The public face of the document, and those rules of LANGUAGE.md that can be seen from outside. */
public final class FaceTest {
    private static final Check check = new Check();
    private static final String[] METHODS = {"write/1", "wipe/0", "fault/0", "reason/0", "lay/0", "rule/2", "code/2",
        "pass/1", "convict/4", "course/2", "strike/1", "lower/2", "redate/2", "excuse/1", "undo/0", "year/2", "event/2",
        "sum/2", "need/1", "would/3", "banned/2", "days/3", "free/1", "ban/3", "seen/3", "count/1"};
    private static final String[] CONSTANTS = {"BAD", "NO", "FULL", "NONE", "ZERO"};

    public static void main(String[] args) throws IOException {
        face();
        nestedClasses();
        source();
        independentObjects();
        check.finish();
    }

    private static void face() {
        check.part("face");
        Class<?> c = PointsOffice.class;
        check.isTrue("public and final", Modifier.isPublic(c.getModifiers()) && Modifier.isFinal(c.getModifiers()));
        Set<String> found = new TreeSet<>();
        for (Method m : c.getDeclaredMethods()) {
            if (Modifier.isPrivate(m.getModifiers())) {
                for (String name : METHODS) {
                    check.isTrue(m + " bears no name of the face", !name.startsWith(m.getName() + "/"));
                }
                continue;
            }
            found.add(m.getName() + "/" + m.getParameterCount());
            check.isTrue(m + " is public, of the object, answers int", Modifier.isPublic(m.getModifiers())
                    && !Modifier.isStatic(m.getModifiers()) && m.getReturnType() == int.class);
            for (Class<?> type : m.getParameterTypes()) {
                check.isTrue(m + " takes int", type == int.class);
            }
        }
        check.isTrue("methods: " + found, found.equals(new TreeSet<>(Set.of(METHODS))));
        Set<String> fields = new TreeSet<>();
        for (Field f : c.getDeclaredFields()) {
            if (!Modifier.isPrivate(f.getModifiers())) {
                fields.add(f.getName());
            }
        }
        check.isTrue("constants: " + fields, fields.equals(new TreeSet<>(Set.of(CONSTANTS))));
        Constructor<?>[] constructors = c.getDeclaredConstructors();
        check.due("constructors", constructors.length, 1);
        check.due("its parameters", constructors[0].getParameterCount(), 0);
        check.isTrue("it is public", Modifier.isPublic(constructors[0].getModifiers()));
        check.due("BAD", PointsOffice.BAD, -1);
        check.due("NO", PointsOffice.NO, -2);
        check.due("FULL", PointsOffice.FULL, -3);
        check.due("NONE", PointsOffice.NONE, -4);
        check.due("ZERO", PointsOffice.ZERO, 100000);
    }

    private static void nestedClasses() {
        check.part("classes inside");
        Set<String> names = new TreeSet<>();
        for (String method : METHODS) {
            names.add(method.substring(0, method.indexOf('/')));
        }
        Class<?>[] inside = PointsOffice.class.getDeclaredClasses();
        check.isTrue("some twelve at most", inside.length < 12);
        for (Class<?> c : inside) {
            check.isTrue(c + " is static and not public", Modifier.isStatic(c.getModifiers())
                    && !Modifier.isPublic(c.getModifiers()) && !Modifier.isProtected(c.getModifiers()));
            check.isTrue(c + " has some twenty fields at most", c.getDeclaredFields().length <= 20);
            for (Method m : c.getDeclaredMethods()) {
                check.isTrue(m + " bears no name of the face", !names.contains(m.getName()));
                check.isTrue(m + " takes at most seven", m.getParameterCount() <= 7);
            }
            for (Field f : c.getDeclaredFields()) {
                check.isTrue(f + " final, if static", !Modifier.isStatic(f.getModifiers()) || Modifier.isFinal(f.getModifiers()));
            }
        }
    }

    private static void source() throws IOException {
        check.part("source");
        String root = System.getProperty("project.root", ".");
        String text = Files.readString(Path.of(root, "src", "main", "java", "PointsOffice.java"));
        String code = text.replaceAll("(?s)/\\*.*?\\*/", "").replaceAll("//[^\n]*", "");
        String[] words = {"throw", "throws", "try", "catch", "synchronized", "assert", "import", "package", "Object",
            "hashCode", "toString", "System", "Thread", "Random", "protected"};
        for (String word : words) {
            check.isTrue("no " + word, !Pattern.compile("\\b" + word + "\\b").matcher(code).find());
        }
        check.isTrue("no lambda or method reference", !code.contains("->") && !code.contains("::"));
        Matcher odd = Pattern.compile("[^\\x20-\\x7e\n]").matcher(text);
        check.isTrue("plain signs alone", !odd.find());
        for (String line : text.split("\n")) {
            check.isTrue("a line not too long: " + line, line.length() <= 120);
        }
    }

    private static void independentObjects() {
        check.part("two objects");
        PointsOffice x = new PointsOffice();
        PointsOffice y = new PointsOffice();
        x.pass(9);
        x.convict(0, 9, 3, 0);
        x.rule(0, 5);
        x.write('k');
        check.due("count(1)", y.count(1), 0);
        check.due("count(2)", y.count(2), 0);
        check.due("count(4)", y.count(4), 0);
        check.due("count(5)", y.count(5), 60);
        check.due("count(11)", y.count(11), 0);
    }
}
