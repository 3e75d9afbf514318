import java.io.IOException;
import java.lang.reflect.Constructor;
import java.lang.reflect.Field;
import java.lang.reflect.Method;
import java.lang.reflect.Modifier;
import java.nio.charset.StandardCharsets;
import java.nio.file.Files;
import java.nio.file.Path;
import java.util.ArrayList;
import java.util.List;
import java.util.Set;
import java.util.TreeSet;

/** The class has the face of the document's code block: each method with its exceptions, and no other member. */
public final class FaceTest {
    private static final Path DOCUMENT = Path.of("../shared/DOC.md");
    private static final Path SOURCE = Path.of("src/main/java/RefinementMint.java");

    private static int wrong = 0;

    private static void fault(String what) {
        wrong++;
        System.out.println("face: " + what);
    }

    public static void main(String[] args) throws IOException {
        List<String> block = codeBlock(Files.readString(DOCUMENT, StandardCharsets.UTF_8));
        List<String> declared = new ArrayList<>();
        for (String line : block) {
            if (line.startsWith("    public ")) {
                declared.add(line.substring(4));
            }
        }
        if (declared.size() != 47) {
            fault("the document declares " + declared.size() + " constructors and methods, 47 are expected");
        }
        checkCompiled(declared);
        checkSource(block, declared);
        checkNamesInside(declared);
        if (wrong > 0) {
            System.exit(1);
        }
        System.out.println("the face is the document's");
    }

    private static List<String> codeBlock(String document) {
        List<String> lines = new ArrayList<>();
        boolean isInside = false;
        for (String line : document.split("\n")) {
            if (isInside && line.startsWith("```")) {
                return lines;
            }
            if (isInside) {
                lines.add(line);
            }
            isInside = isInside || line.startsWith("```java");
        }
        return lines;
    }

    /** Sets of declarations: what the document has and the class has not, or the other way round, is a fault. */
    private static void checkCompiled(List<String> declared) {
        Set<String> want = new TreeSet<>();
        for (String line : declared) {
            want.add(withoutNames(line));
        }
        Set<String> got = new TreeSet<>();
        for (Constructor<?> made : RefinementMint.class.getDeclaredConstructors()) {
            if (!Modifier.isPrivate(made.getModifiers())) {
                got.add(told(made.getModifiers(), "", "RefinementMint", made.getParameterTypes(),
                        made.getExceptionTypes()));
            }
        }
        for (Method method : RefinementMint.class.getDeclaredMethods()) {
            if (!Modifier.isPrivate(method.getModifiers()) && !method.isSynthetic()) {
                got.add(told(method.getModifiers(), method.getReturnType().getSimpleName() + " ", method.getName(),
                        method.getParameterTypes(), method.getExceptionTypes()));
            }
        }
        for (Field field : RefinementMint.class.getDeclaredFields()) {
            if (!Modifier.isPrivate(field.getModifiers())) {
                got.add("field " + field.getName());
            }
        }
        tellUnlike(want, got);
        int modifiers = RefinementMint.class.getModifiers();
        if (modifiers != (Modifier.PUBLIC | Modifier.FINAL)) {
            fault("the class is " + Modifier.toString(modifiers));
        }
    }

    private static void tellUnlike(Set<String> want, Set<String> got) {
        for (String line : want) {
            if (!got.contains(line)) {
                fault("the class lacks: " + line);
            }
        }
        for (String line : got) {
            if (!want.contains(line)) {
                fault("the document lacks: " + line);
            }
        }
    }

    private static String told(int modifiers, String type, String name, Class<?>[] parameters, Class<?>[] thrown) {
        StringBuilder text = new StringBuilder(Modifier.toString(modifiers)).append(' ').append(type).append(name);
        text.append('(').append(namesOf(parameters)).append(')');
        return thrown.length == 0 ? text.toString() : text.append(" throws ").append(namesOf(thrown)).toString();
    }

    private static String namesOf(Class<?>[] types) {
        List<String> names = new ArrayList<>();
        for (Class<?> type : types) {
            names.add(type.getSimpleName());
        }
        return String.join(", ", names);
    }

    /** A declaration of the document with the types of its parameters, but not their names. */
    private static String withoutNames(String declaration) {
        int open = declaration.indexOf('(');
        int close = declaration.indexOf(')');
        List<String> types = new ArrayList<>();
        for (String parameter : declaration.substring(open + 1, close).split(", ")) {
            types.add(parameter.split(" ")[0]);
        }
        return declaration.substring(0, open + 1) + String.join(", ", types)
                + declaration.substring(close).replace(";", "");
    }

    /** Each line of the code block stands in the source word for word, in the order of the document. */
    private static void checkSource(List<String> block, List<String> declared) throws IOException {
        List<String> source = Files.readAllLines(SOURCE, StandardCharsets.UTF_8);
        for (String line : block) {
            if (line.startsWith("import ") && !source.contains(line)) {
                fault("the source lacks: " + line);
            }
        }
        int last = -1;
        for (String line : declared) {
            int at = source.indexOf("    " + line.substring(0, line.length() - 1) + " {");
            if (at <= last) {
                fault("the source lacks, or has not in its order: " + line);
            }
            last = Math.max(last, at);
        }
    }

    /** No private method, of the class or of one inside it, bears the name of a public one. */
    private static void checkNamesInside(List<String> declared) {
        Set<String> names = new TreeSet<>();
        for (String line : declared) {
            String head = line.substring(0, line.indexOf('('));
            names.add(head.substring(head.lastIndexOf(' ') + 1));
        }
        List<Class<?>> classes = new ArrayList<>(List.of(RefinementMint.class.getDeclaredClasses()));
        classes.add(RefinementMint.class);
        for (Class<?> type : classes) {
            for (Method method : type.getDeclaredMethods()) {
                if (Modifier.isPrivate(method.getModifiers()) && names.contains(method.getName())) {
                    fault("private in " + type.getSimpleName() + ": " + method.getName());
                }
            }
            if (type != RefinementMint.class && !Modifier.isStatic(type.getModifiers())) {
                fault("not static: " + type.getSimpleName());
            }
        }
    }
}
