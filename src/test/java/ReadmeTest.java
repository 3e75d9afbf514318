import java.io.IOException;
import java.lang.reflect.Constructor;
import java.lang.reflect.InvocationTargetException;
import java.lang.reflect.Method;
import java.net.URL;
import java.net.URLClassLoader;
import java.nio.charset.StandardCharsets;
import java.nio.file.Files;
import java.nio.file.Path;
import java.util.ArrayList;
import java.util.List;
import java.util.stream.Stream;
import javax.tools.JavaCompiler;
import javax.tools.ToolProvider;

/**
 * The examples of README.md: each block of Java is compiled and run as it stands there, each line with a comment behind it
 * has to answer what the comment says, and together they call each method of the face.
 */
public final class ReadmeTest {
    private static final Path README = Path.of("README.md");
    /** So many lines with an answer at least; fewer mean that they are not read. */
    private static final int LEAST = 60;

    private static int wrong = 0;

    private static void fault(String what) {
        wrong++;
        System.out.println("README.md: " + what);
    }

    public static void main(String[] args) throws IOException, ReflectiveOperationException {
        List<List<String>> blocks = blocks(Files.readAllLines(README, StandardCharsets.UTF_8));
        int answers = 0;
        for (List<String> block : blocks) {
            answers += runBlock(block);
        }
        if (answers < LEAST) {
            fault("only " + answers + " answers were found");
        }
        checkAllNamed(blocks);
        System.out.println(wrong == 0 ? answers + " answers of README.md hold" : wrong + " faults of README.md");
        System.exit(wrong == 0 ? 0 : 1);
    }

    private static List<List<String>> blocks(List<String> lines) {
        List<List<String>> all = new ArrayList<>();
        List<String> now = null;
        for (String line : lines) {
            if (line.startsWith("```")) {
                now = line.equals("```java") ? new ArrayList<>() : null;
                if (now != null) {
                    all.add(now);
                }
            } else if (now != null) {
                now.add(line);
            }
        }
        return all;
    }

    private static void checkAllNamed(List<List<String>> blocks) {
        String all = blocks.toString();
        for (Constructor<?> made : RefinementMint.class.getConstructors()) {
            if (!all.contains("new " + made.getName() + "(")) {
                fault("no example makes an object");
            }
        }
        for (Method method : RefinementMint.class.getDeclaredMethods()) {
            if (java.lang.reflect.Modifier.isPublic(method.getModifiers()) && !all.contains("m." + method.getName() + "(")) {
                fault("no example calls " + method.getName());
            }
        }
    }

    /** Runs a block as the body of a method that tells what each line with a comment answers. */
    private static int runBlock(List<String> block) throws IOException, ReflectiveOperationException {
        List<String> due = new ArrayList<>();
        List<String> calls = new ArrayList<>();
        StringBuilder text = new StringBuilder("public final class Example {\n");
        text.append("    public static void tell(java.util.List<String> told) {\n");
        for (String line : block) {
            int at = line.indexOf("//");
            if (at <= 0) {
                text.append(line).append('\n');
                continue;
            }
            String call = line.substring(0, at).trim();
            String answer = line.substring(at + 2).trim();
            int colon = answer.indexOf(": ");
            due.add((colon < 0 ? answer : answer.substring(0, colon)).replace("'", ""));
            calls.add(call);
            tellLine(text, call, answer.startsWith("throws "));
        }
        text.append("    }\n}\n");
        List<String> told = compiledAndRun(text.toString());
        for (int i = 0; i < due.size(); i++) {
            String got = i < told.size() ? told.get(i) : "nothing";
            if (!got.equals(due.get(i))) {
                fault(calls.get(i) + " answers " + got + ", the comment says " + due.get(i));
            }
        }
        return due.size();
    }

    private static void tellLine(StringBuilder text, String call, boolean isRefused) {
        String asked = call.substring(0, call.length() - 1);
        int sign = asked.indexOf(" = ");
        if (isRefused) {
            text.append("try { told.add(String.valueOf(").append(asked).append(")); }");
            text.append(" catch (RuntimeException e) { told.add(\"throws \" + e.getClass().getSimpleName()); }\n");
        } else if (sign >= 0) {
            String name = asked.substring(asked.indexOf(' ') + 1, sign);
            text.append(call).append(" told.add(String.valueOf(").append(name).append("));\n");
        } else {
            text.append("told.add(String.valueOf(").append(asked).append("));\n");
        }
    }

    private static List<String> compiledAndRun(String text) throws IOException, ReflectiveOperationException {
        List<String> told = new ArrayList<>();
        JavaCompiler compiler = ToolProvider.getSystemJavaCompiler();
        Path room = Files.createTempDirectory("readme");
        try {
            Path source = room.resolve("Example.java");
            Files.writeString(source, text, StandardCharsets.UTF_8);
            int failed = compiler.run(null, null, null, "-encoding", "UTF-8", "-d", room.toString(), "-cp",
                    System.getProperty("java.class.path"), source.toString());
            if (failed != 0) {
                fault("an example does not compile");
                return told;
            }
            URL[] from = {room.toUri().toURL()};
            try (URLClassLoader loader = new URLClassLoader(from, ReadmeTest.class.getClassLoader())) {
                loader.loadClass("Example").getMethod("tell", List.class).invoke(null, told);
            } catch (InvocationTargetException e) {
                fault("an example ends by " + e.getCause());
            }
        } finally {
            remove(room);
        }
        return told;
    }

    private static void remove(Path room) throws IOException {
        try (Stream<Path> files = Files.list(room)) {
            for (Path file : files.toList()) {
                Files.delete(file);
            }
        }
        Files.delete(room);
    }
}
