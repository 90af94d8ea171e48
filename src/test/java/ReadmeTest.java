import java.io.IOException;
import java.lang.reflect.Method;
import java.lang.reflect.Modifier;
import java.net.URL;
import java.net.URLClassLoader;
import java.nio.file.Files;
import java.nio.file.Path;
import java.util.ArrayList;
import java.util.List;
import java.util.regex.Matcher;
import java.util.regex.Pattern;
import javax.tools.ToolProvider;

/**
 * The calls that README.md shows, with the answers that it names for them. The page's Java is compiled as it stands
 * there, so that page and program can't part: a call without an answer is wrong, too.
 */
public final class ReadmeTest {
    private static final Pattern BLOCK = Pattern.compile("(?ms)^```java\n(.*?)^```$");
    private static final Pattern ANSWERED =
        Pattern.compile("(?:int (\\w+) = )?(.*?);\\s*// (-?\\d+|true|false|throws \\w+)(?:: \\S.*)?");
    private static final Pattern NEW_OBJECT = Pattern.compile("ClosedUntil \\w+ = new ClosedUntil\\(\\);");
    private static final String TEXT_BLOCK = "\"\"\"";

    private static final Checks CHECKS = new Checks();

    public static void main(String[] args) throws IOException, ReflectiveOperationException {
        String page = Files.readString(Path.of("README.md"));
        StringBuilder helpers = new StringBuilder();
        StringBuilder calls = new StringBuilder();
        Matcher blocks = BLOCK.matcher(page);
        while (blocks.find()) {
            String block = blocks.group(1);
            if (block.startsWith("static ")) {
                helpers.append(block);
            } else {
                calls.append(withAnswersTaken(block));
            }
        }
        List<String[]> answers = run(helpers, calls);
        for (String[] answer : answers) {
            CHECKS.due("README.md: " + answer[0], answer[1], answer[2]);
        }
        showsEachCall(answers);
        CHECKS.finish();
    }

    /** Each call that the page answers hands its answer on; the rest stays as it is. */
    private static String withAnswersTaken(String block) {
        StringBuilder code = new StringBuilder();
        boolean inText = false;
        for (String line : block.split("\n")) {
            boolean plain = inText || line.contains(TEXT_BLOCK) || NEW_OBJECT.matcher(line).matches();
            if (line.contains(TEXT_BLOCK)) {
                inText = !inText;
            }
            code.append(plain ? line : answerTaken(line)).append('\n');
        }
        return code.toString();
    }

    private static String answerTaken(String line) {
        Matcher answered = ANSWERED.matcher(line);
        if (!answered.matches()) {
            CHECKS.due("README.md names an answer for: " + line, false, true);
            return line;
        }
        String variable = answered.group(1);
        String call = answered.group(2);
        String declared = variable == null ? "" : "int " + variable + " = " + call + ";\n";
        String quoted = call.replace("\\", "\\\\").replace("\"", "\\\"");
        String row = "answers.add(new String[] {\"" + quoted + "\", ";
        String wanted = ", \"" + answered.group(3) + "\"});";
        return declared + "try { " + row + "String.valueOf(" + (variable == null ? call : variable) + ")" + wanted
            + " } catch (RuntimeException e) { " + row + "\"throws \" + e.getClass().getSimpleName()" + wanted + " }";
    }

    private static List<String[]> run(CharSequence helpers, CharSequence calls)
            throws IOException, ReflectiveOperationException {
        Path out = Files.createTempDirectory("readme");
        Path source = out.resolve("ReadmeCalls.java");
        Path made = out.resolve("ReadmeCalls.class");
        List<String[]> answers = new ArrayList<>();
        try {
            Files.writeString(source, "public final class ReadmeCalls {\n" + helpers
                + "public static void run(java.util.List<String[]> answers) {\n" + calls + "}\n}\n");
            int failed = ToolProvider.getSystemJavaCompiler().run(null, null, null, "-encoding", "UTF-8",
                "-cp", System.getProperty("java.class.path"), "-d", out.toString(), source.toString());
            CHECKS.due("README.md's Java compiles", failed == 0, true);
            if (failed == 0) {
                try (URLClassLoader loader = new URLClassLoader(new URL[] {out.toUri().toURL()})) {
                    loader.loadClass("ReadmeCalls").getMethod("run", List.class).invoke(null, answers);
                }
            }
        } finally {
            Files.deleteIfExists(made);
            Files.deleteIfExists(source);
            Files.deleteIfExists(out);
        }
        return answers;
    }

    private static void showsEachCall(List<String[]> answers) {
        for (Method method : ClosedUntil.class.getDeclaredMethods()) {
            boolean shown = !Modifier.isPublic(method.getModifiers());
            for (String[] answer : answers) {
                shown |= answer[0].contains("." + method.getName() + "(");
            }
            CHECKS.due("README.md shows " + method.getName(), shown, true);
        }
    }
}
