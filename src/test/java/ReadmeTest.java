import java.io.File;
import java.lang.reflect.Field;
import java.lang.reflect.Method;
import java.lang.reflect.Modifier;
import java.nio.file.Files;
import java.nio.file.Path;
import java.util.HashMap;
import java.util.Map;
import java.util.Set;
import java.util.TreeSet;
import java.util.regex.Matcher;
import java.util.regex.Pattern;

/** README.md says what is so: its example, the methods, the numbers of calls and errors, the tests. */
public final class ReadmeTest {
    private static final Pattern EXAMPLE = Pattern.compile("(?s)```java\n(.*?)```");
    private static final Pattern STEP =
        Pattern.compile("(?:int (\\w+) = )?gate\\.(\\w+)\\((.*?)\\); +// (true|false|-?\\d+): .*");
    private static final Pattern METHOD_ROW = Pattern.compile("(?m)^\\| `(\\w+)\\((.*?)\\)` \\|");
    private static final Pattern CALL_ROW = Pattern.compile("(?m)^\\| (\\d+) \\| ([A-Z]+) \\|");
    private static final Pattern ERROR = Pattern.compile("\\b([A-Z]+) (-\\d+)\\b");
    private static final Pattern TEST_ROW = Pattern.compile("(?m)^\\| `(\\w+Test)` \\|");

    public static void main(String[] args) throws Exception {
        String readme = Files.readString(Path.of("README.md"));
        example(readme);
        methods(readme);
        numbers(readme);
        tests(readme);
        Due.end();
    }

    private static void example(String readme) throws ReflectiveOperationException {
        Matcher block = EXAMPLE.matcher(readme);
        Due.is("there is an example", block.find(), true);
        String[] lines = block.group(1).split("\n");
        Due.is("the example begins with a new object", lines[0].equals("TrapGate gate = new TrapGate();"), true);
        TrapGate gate = new TrapGate();
        Map<String, Integer> variables = new HashMap<>();
        for (int i = 1; i < lines.length; i++) {
            Matcher step = STEP.matcher(lines[i]);
            boolean isStep = step.matches();
            Due.is("can be run: " + lines[i], isStep, true);
            if (isStep) {
                String got = "" + answer(gate, step.group(2), step.group(3), variables);
                Due.is("answered " + got + ": " + lines[i], got.equals(step.group(4)), true);
                if (step.group(1) != null) {
                    variables.put(step.group(1), Integer.valueOf(got));
                }
            }
        }
    }

    private static Object answer(TrapGate gate, String name, String list, Map<String, Integer> variables)
            throws ReflectiveOperationException {
        String[] words = list.isEmpty() ? new String[0] : list.split(", ");
        Object[] values = new Object[words.length];
        for (int i = 0; i < words.length; i++) {
            values[i] = value(words[i], variables);
        }
        return method(name).invoke(gate, values);
    }

    private static Integer value(String word, Map<String, Integer> variables) {
        if (word.startsWith("'")) {
            return (int) word.charAt(1);
        }
        return variables.containsKey(word) ? variables.get(word) : Integer.valueOf(word);
    }

    private static Method method(String name) {
        for (Method m : TrapGate.class.getMethods()) {
            if (m.getName().equals(name)) {
                return m;
            }
        }
        throw new IllegalArgumentException("README.md names a method that is not there: " + name);
    }

    private static void methods(String readme) {
        Set<String> named = new TreeSet<>();
        for (Matcher row = METHOD_ROW.matcher(readme); row.find();) {
            int parameters = row.group(2).isEmpty() ? 0 : row.group(2).split(", ").length;
            named.add(row.group(1) + " with " + parameters);
        }
        Set<String> there = new TreeSet<>();
        for (Method m : TrapGate.class.getDeclaredMethods()) {
            if (Modifier.isPublic(m.getModifiers())) {
                there.add(m.getName() + " with " + m.getParameterCount());
            }
        }
        alike("methods", named, there);
    }

    private static void numbers(String readme) throws IllegalAccessException {
        Set<String> named = new TreeSet<>();
        for (Matcher row = CALL_ROW.matcher(readme); row.find();) {
            named.add(row.group(2) + " " + row.group(1));
        }
        for (Matcher error = ERROR.matcher(readme); error.find();) {
            named.add(error.group(1) + " " + error.group(2));
        }
        Set<String> there = new TreeSet<>();
        for (Field f : Numbers.class.getFields()) {
            String name = f.getName().equals("BROKEN_PIPE") ? "PIPE" : f.getName();
            int number = f.getInt(null);
            if (number != Numbers.LEAST && number != Numbers.MOST) {
                there.add(name + " " + number);
            }
        }
        alike("numbers", named, there);
    }

    private static void tests(String readme) {
        Set<String> named = new TreeSet<>();
        for (Matcher row = TEST_ROW.matcher(readme); row.find();) {
            named.add(row.group(1) + ".java");
        }
        Set<String> there = new TreeSet<>();
        for (File file : new File("src/test/java").listFiles()) {
            if (file.getName().endsWith(".java")) {
                there.add(file.getName());
            }
        }
        alike("tests", named, there);
    }

    private static void alike(String what, Set<String> named, Set<String> there) {
        if (!named.equals(there)) {
            System.out.println("README.md names the " + what + " " + named + ", there are " + there);
        }
        Due.is("README.md names the " + what + " that there are", named.equals(there), true);
    }
}
