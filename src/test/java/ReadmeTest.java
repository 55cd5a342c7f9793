import java.io.IOException;
import java.lang.reflect.Method;
import java.lang.reflect.Modifier;
import java.net.URL;
import java.net.URLClassLoader;
import java.nio.file.Files;
import java.nio.file.Path;
import java.util.List;
import java.util.function.Supplier;
import java.util.regex.Matcher;
import java.util.regex.Pattern;

/** README.md: its calls are compiled and made as they stand there, and must answer what stands behind them. */
public final class ReadmeTest {
    private static final Path README = Path.of("README.md");
    private static final String MAKING = "Nestprint printer = new Nestprint();";
    private static final Pattern CALL =
        Pattern.compile("((?:int (\\w+) = )?(printer\\..*);) +// (\"[^\"]*\"|-?\\d+|true|false|throws \\w+)(?:: .*)?");
    private static int blocks = 0;

    public static void main(String[] args) throws Exception {
        List<String> page = Files.readAllLines(README);
        everyMethodIsCalled(page);
        everyTestIsNamed(page);
        make(programOf(page));
        Checks.end();
    }

    private static void everyMethodIsCalled(List<String> page) {
        for (Method method : Nestprint.class.getDeclaredMethods()) {
            if (Modifier.isPublic(method.getModifiers())) {
                String call = "printer." + method.getName() + "(";
                Checks.due(call + " stands in README.md", page.stream().anyMatch(row -> row.contains(call)), true);
            }
        }
    }

    private static void everyTestIsNamed(List<String> page) throws IOException {
        try (var files = Files.list(Path.of("src/test/java"))) {
            for (Path file : files.toList()) {
                String name = file.getFileName().toString().replace(".java", "");
                if (name.endsWith("Test")) {
                    boolean isNamed = page.stream().anyMatch(row -> row.startsWith("| `" + name + "`"));
                    Checks.due(name + " stands in README.md", isNamed, true);
                }
            }
        }
    }

    /** A method for each block of calls, and one that calls all of these. */
    private static String programOf(List<String> page) {
        StringBuilder program = new StringBuilder("public final class ReadmeCalls {\n");
        StringBuilder all = new StringBuilder("public static void all() {\n");
        boolean isInside = false;
        for (String row : page) {
            if (!isInside && row.equals("```java")) {
                isInside = true;
                blocks++;
                all.append("block").append(blocks).append("();\n");
                program.append("static void block").append(blocks).append("() {\n");
            } else if (isInside && row.equals("```")) {
                isInside = false;
                program.append("}\n");
            } else if (isInside) {
                program.append(stepOf(row)).append('\n');
            }
        }
        Checks.due("README.md has blocks of calls", blocks > 0, true);
        return program.append(all).append("}\n}\n").toString();
    }

    private static String stepOf(String row) {
        Matcher call = CALL.matcher(row);
        if (row.equals(MAKING)) {
            return row;
        }
        if (!call.matches()) {
            Checks.due("a row of README.md", row, "a call, with what it answers");
            return "";
        }
        String want = call.group(4);
        String rest = ", " + quoted(blocks + ": " + row) + ", " + quoted(want) + ");";
        if (want.startsWith("throws ")) {
            return "ReadmeTest.due(() -> " + call.group(3) + rest;
        }
        if (call.group(2) == null) {
            return "{ Object got = " + call.group(3) + "; ReadmeTest.due(() -> got" + rest + " }";
        }
        return call.group(1) + " ReadmeTest.due(() -> " + call.group(2) + rest;
    }

    private static String quoted(String text) {
        return '"' + text.replace("\\", "\\\\").replace("\"", "\\\"") + '"';
    }

    /** Called by what is made of README.md: it answers as the page says it, a text between quotes. */
    public static void due(Supplier<Object> call, String row, String want) {
        String got;
        try {
            Object answer = call.get();
            got = answer instanceof String ? "\"" + answer + "\"" : String.valueOf(answer);
        } catch (RuntimeException thrown) {
            got = "throws " + thrown.getClass().getSimpleName();
        }
        Checks.due("README.md, block " + row, got, want);
    }

    private static void make(String program) throws Exception {
        Path place = Files.createTempDirectory("readme");
        Path file = place.resolve("ReadmeCalls.java");
        Path made = place.resolve("ReadmeCalls.class");
        try {
            Files.writeString(file, program);
            String classes = System.getProperty("java.class.path");
            ProcessBuilder javac = new ProcessBuilder("javac", "-cp", classes, "-d", place.toString(), file.toString());
            int code = javac.inheritIO().start().waitFor();
            Checks.due("README.md compiled", code, 0);
            if (code == 0) {
                run(place);
            }
        } finally {
            Files.deleteIfExists(file);
            Files.deleteIfExists(made);
            Files.deleteIfExists(place);
        }
    }

    private static void run(Path place) throws Exception {
        URL[] places = {place.toUri().toURL()};
        try (URLClassLoader loader = new URLClassLoader(places, ReadmeTest.class.getClassLoader())) {
            loader.loadClass("ReadmeCalls").getMethod("all").invoke(null);
        }
    }
}
