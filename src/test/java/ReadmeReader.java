import java.io.IOException;
import java.lang.reflect.Field;
import java.lang.reflect.Method;
import java.lang.reflect.Modifier;
import java.nio.file.DirectoryStream;
import java.nio.file.Files;
import java.nio.file.Path;
import java.util.LinkedHashMap;
import java.util.Map;
import java.util.Set;
import java.util.TreeSet;
import java.util.regex.Matcher;
import java.util.regex.Pattern;

/**
 * Writes ReadmeTest.java out of README.md: each call that the page shows is run in the order of the
 * page and compared with the answer that the page tells, and so is each constant. It refuses a page
 * that shows a call without an answer, or leaves out a call, a constant or a test.
 *
 * <p>Arguments: the page, the directory of the tests, the file to write.
 */
public final class ReadmeReader {
    private static final Pattern NEW_OBJECT = Pattern.compile("WitchTrial (\\w+) = new WitchTrial\\(\\);");
    private static final Pattern CALL = Pattern.compile("((\\w+)\\.(\\w+)\\([^;]*\\)); +// ([^ :]+)(: .*)?");
    private static final Pattern ANSWER = Pattern.compile("-?\\d+|0b[01]+|true|false|WitchTrial\\.[A-Z_]+");
    private static final Pattern CONSTANT = Pattern.compile("`([A-Z_]+) = (-?\\d+)`");
    private static final Pattern CALL_IN_TEXT = Pattern.compile("`[^`]*\\w\\([^`]*`");
    private static final Pattern TEST_IN_TABLE = Pattern.compile("\\| `(\\w+Test)` \\|.*");
    private static final Map<String, Class<? extends Exception>> EXCEPTIONS = exceptions();

    private final StringBuilder body = new StringBuilder();
    private final Set<String> objects = new TreeSet<>();
    private final Set<String> calls = new TreeSet<>();
    private final Set<String> constants = new TreeSet<>();
    private final Set<String> tests = new TreeSet<>();
    private boolean inJava;
    private boolean inOther;
    private boolean failed;

    public static void main(String[] args) throws IOException {
        ReadmeReader page = new ReadmeReader();
        int number = 0;
        for (String line : Files.readAllLines(Path.of(args[0]))) {
            number++;
            page.read(line, args[0] + ":" + number);
        }
        page.same("calls", page.calls, methodsOfTheFace());
        page.same("constants", page.constants, constantsOfTheFace());
        page.same("tests", page.tests, testsIn(Path.of(args[1])));
        if (page.failed) {
            System.exit(1);
        }
        Files.writeString(Path.of(args[2]), page.source());
        System.out.println("ReadmeReader: " + page.calls.size() + " calls and " + page.constants.size() + " constants");
    }

    private static Map<String, Class<? extends Exception>> exceptions() {
        Map<String, Class<? extends Exception>> names = new LinkedHashMap<>();
        names.put("IllegalStateException", Check.STATE);
        names.put("IndexOutOfBoundsException", Check.INDEX);
        names.put("IllegalArgumentException", Check.ARGUMENT);
        names.put("NoSuchElementException", Check.ELEMENT);
        return names;
    }

    // ---- what the page shows

    private void read(String line, String where) {
        if (line.startsWith("```")) {
            boolean opens = !inJava && !inOther;
            inJava = opens && line.equals("```java");
            inOther = opens && !inJava;
        } else if (inJava) {
            readJava(line.strip(), where);
        } else {
            readText(line, where);
        }
    }

    private void readJava(String line, String where) {
        Matcher made = NEW_OBJECT.matcher(line);
        Matcher call = CALL.matcher(line);
        if (made.matches()) {
            objects.add(made.group(1));
            body.append("        ").append(line).append('\n');
        } else if (call.matches() && objects.contains(call.group(2)) && isAnswer(call.group(4))) {
            calls.add(call.group(3));
            compare(where + " " + call.group(1), call.group(1), due(call.group(4)));
        } else if (!line.isEmpty()) {
            fail(where + ": neither a new object nor a call with its answer: " + line);
        }
    }

    private void readText(String line, String where) {
        if (CALL_IN_TEXT.matcher(line).find()) {
            fail(where + ": a call outside of the java blocks, which is not run: " + line);
        }
        Matcher constant = CONSTANT.matcher(line);
        while (constant.find()) {
            constants.add(constant.group(1));
            String name = "WitchTrial." + constant.group(1);
            compare(where + " " + name, name, constant.group(2));
        }
        Matcher test = TEST_IN_TABLE.matcher(line);
        if (test.matches()) {
            tests.add(test.group(1));
        }
    }

    private static boolean isAnswer(String text) {
        return ANSWER.matcher(text).matches() || EXCEPTIONS.containsKey(text);
    }

    private static String due(String text) {
        return EXCEPTIONS.containsKey(text) ? '"' + EXCEPTIONS.get(text).getName() + '"' : text;
    }

    private void compare(String what, String expression, String due) {
        body.append("        check.equal(\"").append(what).append("\", Check.outcome(() -> ").append(expression)
                .append("), ").append(due).append(");\n");
    }

    private String source() {
        return "/** Made of README.md by ReadmeReader. */\n"
                + "public final class ReadmeTest {\n"
                + "    public static void main(String[] args) {\n"
                + "        Check check = new Check(\"ReadmeTest\");\n"
                + body
                + "        check.finish();\n"
                + "    }\n"
                + "}\n";
    }

    // ---- what the page has to show

    private static Set<String> methodsOfTheFace() {
        Set<String> names = new TreeSet<>();
        for (Method method : WitchTrial.class.getDeclaredMethods()) {
            if (Modifier.isPublic(method.getModifiers())) {
                names.add(method.getName());
            }
        }
        return names;
    }

    private static Set<String> constantsOfTheFace() {
        Set<String> names = new TreeSet<>();
        for (Field field : WitchTrial.class.getFields()) {
            names.add(field.getName());
        }
        return names;
    }

    private static Set<String> testsIn(Path directory) throws IOException {
        Set<String> names = new TreeSet<>();
        names.add("ReadmeTest");
        try (DirectoryStream<Path> files = Files.newDirectoryStream(directory, "*Test.java")) {
            for (Path file : files) {
                names.add(file.getFileName().toString().replace(".java", ""));
            }
        }
        return names;
    }

    private void same(String what, Set<String> shown, Set<String> due) {
        if (!shown.equals(due)) {
            fail("the page shows the " + what + " " + shown + ", due are " + due);
        }
    }

    private void fail(String text) {
        failed = true;
        System.out.println("ReadmeReader: " + text);
    }
}
