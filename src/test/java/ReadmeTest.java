import java.io.File;
import java.io.IOException;
import java.lang.reflect.Method;
import java.lang.reflect.Modifier;
import java.net.URL;
import java.net.URLClassLoader;
import java.nio.charset.StandardCharsets;
import java.nio.file.Files;
import java.nio.file.Path;
import java.util.ArrayList;
import java.util.List;
import java.util.regex.Matcher;
import java.util.regex.Pattern;
import javax.tools.ToolProvider;

/** README.md says what is so: its examples answer as they say, and it names each call and each test. */
public final class ReadmeTest {
    private static final Check check = new Check("ReadmeTest");
    private static final Pattern BLOCK = Pattern.compile("```java\n(.*?)```", Pattern.DOTALL);
    /** A line of an example: perhaps a variable, the call, and in the comment the answer, up to a colon. */
    private static final Pattern LINE = Pattern.compile("(?:int (\\w+) = )?(house\\..*?); +// ([^:]+)(?::.*)?");
    private static final String MAKING = "SurveyHouse house = new SurveyHouse();";

    private final List<String> calls = new ArrayList<>();
    private final List<String> answers = new ArrayList<>();
    private final StringBuilder body = new StringBuilder();

    private void readLine(String line) {
        Matcher parts = LINE.matcher(line);
        if (line.equals(MAKING)) {
            body.append(line);
        } else if (!parts.matches()) {
            check.tell("the line of an example " + line, "no call with its answer", "one");
        } else if (parts.group(1) != null) {
            body.append("int ").append(parts.group(1)).append(" = ").append(parts.group(2)).append("; add(got, ")
                    .append(parts.group(1)).append(");");
            keep(parts);
        } else {
            body.append("try { add(got, ").append(parts.group(2)).append("); } catch (RuntimeException e) { ")
                    .append("add(got, \"throws \" + e.getClass().getSimpleName()); }");
            keep(parts);
        }
        body.append('\n');
    }

    private void keep(Matcher parts) {
        calls.add(parts.group(2));
        answers.add(parts.group(3));
    }

    private static List<?> run(String body) throws IOException, ReflectiveOperationException {
        Path place = Files.createDirectories(Path.of("build", "readme"));
        Path file = place.resolve("ReadmeExample.java");
        Files.writeString(file, "public final class ReadmeExample {\n"
                + "static void add(java.util.List<String> got, Object answer) { got.add(String.valueOf(answer)); }\n"
                + "public static java.util.List<String> got() {\n"
                + "java.util.List<String> got = new java.util.ArrayList<>();\n" + body + "return got;\n}\n}\n");
        int ended = ToolProvider.getSystemJavaCompiler().run(null, null, null, "-proc:none", "-cp",
                System.getProperty("java.class.path"), "-d", place.toString(), file.toString());
        check.due("compiling the examples ends with", ended, 0);
        if (ended != 0) {
            return List.of();
        }
        try (URLClassLoader loader = new URLClassLoader(new URL[] {place.toUri().toURL()})) {
            return (List<?>) loader.loadClass("ReadmeExample").getMethod("got").invoke(null);
        }
    }

    private void examples(String page) throws IOException, ReflectiveOperationException {
        Matcher blocks = BLOCK.matcher(page);
        while (blocks.find()) {
            for (String line : blocks.group(1).split("\n")) {
                readLine(line);
            }
        }
        check.due("there are examples", calls.isEmpty(), false);
        List<?> got = run(body.toString());
        check.due("calls in the examples", got.size(), calls.size());
        for (int k = 0; k < got.size() && k < calls.size(); k++) {
            check.due(calls.get(k), 0, 0);
            if (!got.get(k).equals(answers.get(k))) {
                check.tell(calls.get(k), got.get(k).toString(), answers.get(k));
            }
        }
    }

    private static void names(String page) {
        for (Method call : SurveyHouse.class.getDeclaredMethods()) {
            if (Modifier.isPublic(call.getModifiers())) {
                check.due("README names " + call.getName() + "()", page.contains("`" + call.getName() + "("), true);
            }
        }
        File[] files = new File("src/test/java").listFiles();
        check.due("there are tests", files != null && files.length > 0, true);
        for (File file : files == null ? new File[0] : files) {
            String name = file.getName().replace(".java", "");
            check.due("README names " + name, page.contains("`" + name + "`"), true);
        }
    }

    public static void main(String[] args) throws IOException, ReflectiveOperationException {
        String page = Files.readString(Path.of("README.md"), StandardCharsets.UTF_8);
        new ReadmeTest().examples(page);
        names(page);
        check.end();
    }
}
