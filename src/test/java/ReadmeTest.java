import java.lang.reflect.Field;
import java.lang.reflect.Method;
import java.lang.reflect.Modifier;
import java.net.URL;
import java.net.URLClassLoader;
import java.nio.charset.StandardCharsets;
import java.nio.file.Files;
import java.nio.file.Path;
import java.util.ArrayList;
import java.util.List;
import java.util.regex.Matcher;
import java.util.regex.Pattern;
import javax.tools.JavaCompiler;
import javax.tools.ToolProvider;

/** README.md's example, compiled as it stands there: each call answers the number that its comment begins with. */
public final class ReadmeTest {
    private static final Path FOLDER = Path.of("build/readme");
    private static final Pattern CALL = Pattern.compile("(x\\.\\w+\\(.*\\)); +// (-?[0-9]+)\\b.*");

    public static void main(String[] args) throws Exception {
        String readme = Files.readString(Path.of("README.md"), StandardCharsets.UTF_8);
        namesTheFace(readme);
        playsTheExample(readme);
        Due.end();
    }

    private static void namesTheFace(String readme) {
        for (Method method : SluiceLevels.class.getDeclaredMethods()) {
            if (Modifier.isPublic(method.getModifiers())) {
                Due.is("README.md names " + method.getName(), readme.contains("`" + method.getName() + "`") ? 1 : 0, 1);
            }
        }
        for (Field field : SluiceLevels.class.getFields()) {
            Due.is("README.md names " + field.getName(), readme.contains("| `" + field.getName() + "` " + valueOf(field) + " |") ? 1 : 0, 1);
        }
    }

    private static int valueOf(Field field) {
        try {
            return field.getInt(null);
        } catch (IllegalAccessException e) {
            throw new IllegalStateException(e);
        }
    }

    private static void playsTheExample(String readme) throws Exception {
        int from = readme.indexOf("```java\n") + 8;
        String example = readme.substring(from, readme.indexOf("```", from));
        List<String> calls = new ArrayList<>();
        List<Long> wanted = new ArrayList<>();
        StringBuilder code = new StringBuilder("public final class ReadmeExample {\n  public static java.util.List<Long> play() {\n"
            + "    java.util.List<Long> got = new java.util.ArrayList<>();\n");
        for (String line : example.split("\n")) {
            Matcher call = CALL.matcher(line);
            if (call.matches()) {
                calls.add(call.group(1));
                wanted.add(Long.parseLong(call.group(2)));
                code.append("got.add((long) ").append(call.group(1)).append(");\n");
            } else {
                Due.is("a call with its answer: " + line, line.startsWith("x.") ? 0 : 1, 1);
                code.append(line).append('\n');
            }
        }
        List<?> got = play(code.append("    return got;\n  }\n}\n").toString());
        Due.is("calls of the example", got.size(), wanted.size());
        for (int k = 0; k < wanted.size() && k < got.size(); k++) {
            Due.is("README.md: " + calls.get(k), (Long) got.get(k), wanted.get(k));
        }
    }

    private static List<?> play(String code) throws Exception {
        Files.createDirectories(FOLDER);
        Path file = FOLDER.resolve("ReadmeExample.java");
        Files.writeString(file, code, StandardCharsets.UTF_8);
        JavaCompiler javac = ToolProvider.getSystemJavaCompiler();
        int failed = javac.run(null, null, null, "-cp", System.getProperty("java.class.path"), "-d", FOLDER.toString(), file.toString());
        Due.is("the example compiles", failed, 0);
        if (failed != 0) {
            return List.of();
        }
        try (URLClassLoader loader = new URLClassLoader(new URL[] {FOLDER.toUri().toURL()}, ReadmeTest.class.getClassLoader())) {
            return (List<?>) loader.loadClass("ReadmeExample").getMethod("play").invoke(null);
        }
    }
}
