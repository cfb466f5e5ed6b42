import java.io.IOException;
import java.lang.reflect.Field;
import java.lang.reflect.Method;
import java.lang.reflect.Modifier;
import java.net.URL;
import java.net.URLClassLoader;
import java.nio.file.DirectoryStream;
import java.nio.file.Files;
import java.nio.file.Path;
import java.util.ArrayList;
import java.util.Arrays;
import java.util.List;
import java.util.regex.Matcher;
import java.util.regex.Pattern;
import javax.tools.ToolProvider;

/** README.md: its example answers so, its calls and refusals are the document's, its tests are there and are run. */
public final class SafetyPinsReadme {
    private static final Path TESTS = Path.of("src/test/java");

    private static int wrong = 0;

    static void must(boolean holds, String what) {
        if (!holds) {
            wrong++;
            System.out.println("README.md: " + what);
        }
    }

    public static void main(String[] args) throws Exception {
        String page = Files.readString(Path.of("README.md"));
        int answers = examples(page);
        must(answers >= 40, "an example of " + answers + " answers");
        calls(page);
        numbers(page);
        tests(page);
        System.out.println(wrong == 0 ? "README.md is so, with " + answers + " answers" : wrong + " faults of README.md");
        if (wrong != 0) {
            System.exit(1);
        }
    }

    // ---- the example

    /** Lines of an example that end with "// number" or "// number: words" must answer it; how many do. */
    private static int examples(String page) throws Exception {
        Matcher block = Pattern.compile("(?s)```java\n(.*?)```").matcher(page);
        StringBuilder body = new StringBuilder();
        int answers = 0;
        while (block.find()) {
            body.append("{\n");
            for (String line : block.group(1).split("\n")) {
                Matcher told = Pattern.compile("(x\\.\\w+\\(.*\\)); *// (-?[0-9]+)(:.*)?").matcher(line);
                if (told.matches()) {
                    answers++;
                    body.append("due(\"").append(told.group(1).replace("\"", "\\\"")).append("\", ").append(told.group(1))
                        .append(", ").append(told.group(2)).append("L);\n");
                } else {
                    must(!line.contains("//"), "an answer that is not told so: " + line);
                    body.append(line).append('\n');
                }
            }
            body.append("}\n");
        }
        run(body.toString());
        return answers;
    }

    private static void run(String body) throws Exception {
        Path folder = Files.createTempDirectory("readme");
        try {
            Path source = folder.resolve("ReadmeExample.java");
            Files.writeString(source, "public final class ReadmeExample {\n"
                + "static StringBuilder faults = new StringBuilder();\n"
                + "static void due(String call, long got, long want) { if (got != want) { faults.append(call + \" answers \" + got"
                + " + \", not \" + want + \"\\n\"); } }\n"
                + "public static String run() {\n" + body + "return faults.toString();\n}\n}\n");
            int compiled = ToolProvider.getSystemJavaCompiler().run(null, null, null, "-proc:none", "-cp",
                System.getProperty("java.class.path"), "-d", folder.toString(), source.toString());
            must(compiled == 0, "its example does not compile");
            if (compiled == 0) {
                try (URLClassLoader loader = new URLClassLoader(new URL[] {folder.toUri().toURL()})) {
                    Object faults = loader.loadClass("ReadmeExample").getMethod("run").invoke(null);
                    must(faults.equals(""), faults.toString());
                }
            }
        } finally {
            for (Path file : filesIn(folder)) {
                Files.delete(file);
            }
            Files.delete(folder);
        }
    }

    private static List<Path> filesIn(Path folder) throws IOException {
        List<Path> all = new ArrayList<>();
        try (DirectoryStream<Path> files = Files.newDirectoryStream(folder)) {
            files.forEach(all::add);
        }
        return all;
    }

    // ---- calls, refusals, numbers

    /** A row for each call, with its arguments as the document names them, and the refusals that it names there. */
    private static void calls(String page) throws IOException {
        String document = Files.readString(Path.of("../shared/DOC.md"));
        for (Method call : SafetyPins.class.getDeclaredMethods()) {
            if (!Modifier.isPublic(call.getModifiers())) {
                continue;
            }
            Matcher promise = Pattern.compile("`\\w+ " + call.getName() + "\\((.*?)\\)`: (.*)").matcher(document);
            must(promise.find(), "the document does not promise " + call.getName());
            String names = promise.group(1).replaceAll("(int|long|boolean) ", "");
            Matcher row = Pattern.compile("(?m)^\\| `" + call.getName() + "\\(" + names + "\\)` \\| (.*) \\| (.*)\\|$").matcher(page);
            boolean isThere = row.find();
            must(isThere, "no row for " + call.getName() + "(" + names + ")");
            if (isThere) {
                must(refusals(row.group(2)).equals(refusals(promise.group(2))), call.getName() + " is refused by " + row.group(2));
                must(row.group(1).contains("`NONE`") == promise.group(2).contains("NONE"), call.getName() + " and NONE");
            }
        }
    }

    private static List<String> refusals(String words) {
        List<String> all = new ArrayList<>();
        Matcher refusal = Pattern.compile("UNKNOWN|OUTSIDE|STATE|FULL").matcher(words);
        while (refusal.find()) {
            all.add(refusal.group());
        }
        return all;
    }

    private static void numbers(String page) throws IllegalAccessException {
        for (Field constant : SafetyPins.class.getDeclaredFields()) {
            if (Modifier.isPublic(constant.getModifiers())) {
                String name = "`" + constant.getName() + "`";
                int number = constant.getInt(null);
                must(page.contains("| " + name + " | " + number + " |") || page.contains(name + " (" + number + ")"),
                    name + " is " + number);
            }
        }
    }

    // ---- the tests

    private static void tests(String page) throws IOException {
        String script = Files.readString(Path.of(".ci/run"));
        for (Path file : filesIn(TESTS)) {
            String name = file.getFileName().toString();
            must(page.contains("`" + name + "`"), "does not name the test " + name);
            boolean isTest = Files.readString(file).contains("static void main(");
            must(!isTest || script.contains("run_test " + TESTS + "/" + name), ".ci/run does not run " + name);
        }
        Matcher named = Pattern.compile("`(SafetyPins\\w+\\.java)`").matcher(page);
        while (named.find()) {
            must(Files.exists(TESTS.resolve(named.group(1))), "there is no test " + named.group(1));
        }
        for (String told : Arrays.asList(".ci/run", "../shared/DOC.md", "../shared/LANGUAGE.md", "../shared/tests")) {
            must(page.contains("`" + told + "`") && Files.exists(Path.of(told)), told);
        }
    }
}
