import java.io.File;
import java.io.IOException;
import java.lang.reflect.Field;
import java.lang.reflect.Method;
import java.lang.reflect.Modifier;
import java.net.URL;
import java.net.URLClassLoader;
import java.nio.file.Files;
import java.nio.file.Path;
import java.util.List;
import java.util.Map;
import java.util.TreeMap;
import java.util.TreeSet;
import java.util.regex.Matcher;
import java.util.regex.Pattern;
import javax.tools.ToolProvider;

/** What README.md says holds: its example, its tables of constants and calls, its list of tests. */
public final class ReadmeTest {
    private static final Pattern ANSWER =
            Pattern.compile("^(?:int|boolean) (\\w+) = .*; *// answers (-?\\d+|true|false)\\b.*");
    private static final Map<String, String> LETTERS = Map.of("IndexOutOfBoundsException", "I",
            "IllegalArgumentException", "A", "IllegalStateException", "S");

    public static void main(String[] args) throws Exception {
        String text = Files.readString(Path.of("README.md"));
        example(text);
        constants(text);
        calls(text);
        bounds(text);
        tests(text);
        Check.finish("ReadmeTest");
    }

    // ---- the example

    private static void example(String text) throws Exception {
        Check.part("README's example");
        Matcher block = Pattern.compile("```java\n(.*?)```", Pattern.DOTALL).matcher(text);
        Check.due("there is one", block.find(), true);
        StringBuilder body = new StringBuilder();
        StringBuilder want = new StringBuilder();
        for (String line : block.group(1).split("\n")) {
            body.append(line).append('\n');
            Matcher answer = ANSWER.matcher(line);
            boolean isTold = answer.matches();
            Check.due("told in a form that is read: " + line, line.contains("// answers"), isTold);
            if (isTold) {
                body.append("told.append(\"" + answer.group(1) + " \").append(" + answer.group(1) + ").append(' ');\n");
                want.append(answer.group(1)).append(' ').append(answer.group(2)).append(' ');
            }
        }
        Check.due("tells answers", want.length() > 0, true);
        Check.due("answers", run(body.toString()), want.toString());
    }

    /** Makes the example a class of its own, compiles it beside the program, and calls it. */
    private static String run(String body) throws Exception {
        Path folder = Files.createTempDirectory("readme");
        Path source = folder.resolve("ReadmeExample.java");
        Files.writeString(source, "public final class ReadmeExample {\n"
                + "public static String answers() {\nStringBuilder told = new StringBuilder();\n"
                + body + "return told.toString();\n}\n}\n");
        try {
            int failed = ToolProvider.getSystemJavaCompiler().run(null, null, null, "-cp",
                    System.getProperty("java.class.path"), "-d", folder.toString(), source.toString());
            Check.due("compiles", failed, 0);
            if (failed != 0) {
                return "";
            }
            try (URLClassLoader loader = new URLClassLoader(new URL[] {folder.toUri().toURL()})) {
                return (String) loader.loadClass("ReadmeExample").getMethod("answers").invoke(null);
            }
        } finally {
            for (File file : folder.toFile().listFiles()) {
                file.delete();
            }
            Files.delete(folder);
        }
    }

    // ---- the tables

    private static void constants(String text) throws Exception {
        Check.part("README's constants");
        Map<String, String> got = rows(text, "\\| `([A-Z]+)` \\| (-?\\d+) \\|.*");
        Map<String, String> want = new TreeMap<>();
        for (Field field : EntryMasters.class.getFields()) {
            want.put(field.getName(), Integer.toString(field.getInt(null)));
        }
        Check.due("constants", got.toString(), want.toString());
    }

    private static void calls(String text) throws IOException {
        Check.part("README's calls");
        Map<String, String> got = rows(text, "\\| `([a-zA-Z]+\\([a-zA-Z, ]*\\))` \\|.* \\|([IAS ]*)\\|");
        got.replaceAll((call, letters) -> letters.trim());
        Map<String, String> want = new TreeMap<>();
        List<String> document = callsOfDocument();
        for (Method method : EntryMasters.class.getDeclaredMethods()) {
            if (Modifier.isPublic(method.getModifiers())) {
                want.put(asDocumentNames(method.getName(), document), letters(method));
            }
        }
        Check.due("calls", got.toString(), want.toString());
        for (Map.Entry<String, String> letter : LETTERS.entrySet()) {
            String legend = letter.getValue() + " is\\s+`" + letter.getKey() + "`";
            Check.due(legend, Pattern.compile(legend).matcher(text).find(), true);
        }
    }

    private static Map<String, String> rows(String text, String form) {
        Map<String, String> rows = new TreeMap<>();
        Matcher row = Pattern.compile("^" + form + "$", Pattern.MULTILINE).matcher(text);
        while (row.find()) {
            String twice = rows.put(row.group(1), row.group(2));
            Check.due("once alone: " + row.group(1), twice == null, true);
        }
        return rows;
    }

    /** The calls as the document writes them, without types: names of arguments are there alone. */
    private static List<String> callsOfDocument() throws IOException {
        return Files.readString(Path.of("../shared/DOC.md")).lines()
                .filter(line -> line.startsWith("    public "))
                .filter(line -> line.contains("("))
                .map(line -> line.replaceAll("^.* (\\w+\\(.*\\)).*$", "$1"))
                .map(line -> line.replaceAll("(int|boolean) ", ""))
                .toList();
    }

    private static String asDocumentNames(String name, List<String> document) {
        for (String call : document) {
            if (call.startsWith(name + "(")) {
                return call;
            }
        }
        return name + " is not in the document";
    }

    private static String letters(Method method) {
        StringBuilder letters = new StringBuilder();
        for (Class<?> thrown : method.getExceptionTypes()) {
            letters.append(letters.length() == 0 ? "" : " ").append(LETTERS.get(thrown.getSimpleName()));
        }
        return letters.toString();
    }

    // ---- the bounds: each as README writes it, and as the program keeps it

    private static void bounds(String text) {
        Check.part("README's bounds");
        for (String row : new String[] {"calls of one object | 512;", "changes | 40,", "filters | 20,",
                "masters | 0 and 1 ", "entries | 0 to 41:", "labels | 0 to 99,", "classes | 0 to 2 ",
                "attributes | 0 to 3;", "values | 0 to 9,", "users | 0 to 2 "}) {
            Check.due(row, text.contains("\n| " + row), true);
        }
        EntryMasters x = new EntryMasters();
        for (int change = 0; change < 40; change++) {
            x.set(change % 2, change / 2 % 2, change % 4, change % 10);
        }
        Check.state("41 changes", () -> x.set(0, 0, 0, 0));
        for (int filter = 0; filter < 20; filter++) {
            x.test(filter % 3, filter % 4, filter % 10);
        }
        Check.state("21 filters", () -> x.test(0, 0, 0));
        Check.argument("the value of test of kind 0 is checked", () -> new EntryMasters().test(0, 0, 10));
        Check.index("the second filter of join of kind 2 is checked", () -> x.join(2, 0, 20));
        Check.due("a new object has two entries", new EntryMasters().entries(1), 2);
    }

    // ---- the list of tests

    private static void tests(String text) {
        Check.part("README's tests");
        TreeSet<String> got = new TreeSet<>();
        Matcher row = Pattern.compile("^- `(\\w+Test)`:", Pattern.MULTILINE).matcher(text);
        while (row.find()) {
            got.add(row.group(1) + ".java");
        }
        TreeSet<String> want = new TreeSet<>();
        for (String name : new File("src/test/java").list()) {
            if (name.endsWith("Test.java")) {
                want.add(name);
            } else {
                boolean isTold = text.contains("`" + name.replace(".java", "") + "`");
                Check.due("told of: " + name, isTold, true);
            }
        }
        Check.due("tests", got.toString(), want.toString());
        Check.due("how to run them", text.contains("    bash .ci/run\n"), true);
        Check.due("what runs them is there", new File(".ci/run").isFile(), true);
    }
}
