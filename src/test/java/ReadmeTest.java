import java.io.IOException;
import java.lang.reflect.Method;
import java.lang.reflect.Modifier;
import java.net.URL;
import java.net.URLClassLoader;
import java.nio.file.Files;
import java.nio.file.Path;
import java.util.ArrayList;
import java.util.List;
import java.util.regex.Matcher;
import java.util.regex.Pattern;
import javax.tools.ToolProvider;

/** The use that README.md shows is compiled and run as it stands there, and answers as it says. */
public final class ReadmeTest {
    private static final Pattern ANSWERED = Pattern.compile(
        "((?:int|long|boolean) (\\w+) = .*;)\\s*// (true|false|-?\\d+|0x[0-9A-F]+)(?::.*)?");
    private static final Pattern THROWING = Pattern.compile("(.*;)\\s*// throws (\\w+)(?::.*)?");
    private static final Pattern DECLARING = Pattern.compile("(?:int|long|boolean) .*");

    public static void main(String[] args) throws Exception {
        List<String> shown = shownLines(Path.of("README.md"));
        usesTheWholeFace(shown);
        List<String> told = new ArrayList<>();
        List<String> want = new ArrayList<>();
        String program = program(shown, told, want);
        List<?> got = run(program);
        Checks.same("answers", got.size(), want.size());
        for (int i = 0; i < want.size() && i < got.size(); i++) {
            Checks.yes(told.get(i) + " -- answered " + got.get(i), want.get(i).equals(got.get(i)));
        }
        Checks.finish();
    }

    private static List<String> shownLines(Path readme) throws IOException {
        List<String> shown = new ArrayList<>();
        boolean isJava = false;
        for (String line : Files.readAllLines(readme)) {
            if (line.startsWith("```")) {
                isJava = line.equals("```java");
            } else if (isJava) {
                shown.add(line);
            }
        }
        return shown;
    }

    private static void usesTheWholeFace(List<String> shown) {
        String all = String.join("\n", shown);
        for (Method method : PageDesk.class.getDeclaredMethods()) {
            if (Modifier.isPublic(method.getModifiers())) {
                Checks.yes("shows " + method.getName(), all.contains("desk." + method.getName() + "("));
            }
        }
    }

    /** The lines shown, each answer that they tell of being put into a row behind its line. */
    private static String program(List<String> shown, List<String> told, List<String> want) {
        StringBuilder text = new StringBuilder("public final class ReadmeUse {\n"
            + "public static java.util.List<Object> answers() {\n"
            + "java.util.List<Object> answers = new java.util.ArrayList<>();\n");
        for (String line : shown) {
            Matcher answered = ANSWERED.matcher(line);
            Matcher throwing = THROWING.matcher(line);
            if (answered.matches()) {
                told.add(line);
                want.add(plain(answered.group(3)));
                text.append(line).append('\n');
                text.append("answers.add(\"\" + ").append(answered.group(2)).append(");\n");
            } else if (throwing.matches()) {
                told.add(line);
                want.add(throwing.group(2));
                text.append("try {\n").append(throwing.group(1)).append('\n');
                text.append("answers.add(\"nothing thrown\");\n} catch (RuntimeException e) {\n");
                text.append("answers.add(e.getClass().getSimpleName());\n}\n");
            } else {
                Checks.no("an answer is told: " + line, DECLARING.matcher(line).matches());
                text.append(line).append('\n');
            }
        }
        return text.append("return answers;\n}\n}\n").toString();
    }

    private static String plain(String answer) {
        boolean isTruth = answer.equals("true") || answer.equals("false");
        return isTruth ? answer : Long.toString(Long.decode(answer));
    }

    private static List<?> run(String program) throws Exception {
        Path room = Files.createTempDirectory("readme");
        Path source = room.resolve("ReadmeUse.java");
        Path compiled = room.resolve("ReadmeUse.class");
        try {
            Files.writeString(source, program);
            int code = ToolProvider.getSystemJavaCompiler().run(null, null, null, "-Xlint:all",
                "-cp", System.getProperty("java.class.path"), "-d", room.toString(), source.toString());
            Checks.same("javac of what README.md shows", code, 0);
            if (code != 0) {
                return List.of();
            }
            try (URLClassLoader loader = new URLClassLoader(new URL[] {room.toUri().toURL()})) {
                return (List<?>) loader.loadClass("ReadmeUse").getMethod("answers").invoke(null);
            }
        } finally {
            Files.deleteIfExists(compiled);
            Files.deleteIfExists(source);
            Files.delete(room);
        }
    }
}
