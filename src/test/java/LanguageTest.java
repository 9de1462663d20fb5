import java.io.IOException;
import java.lang.reflect.Executable;
import java.lang.reflect.Field;
import java.lang.reflect.Modifier;
import java.nio.charset.StandardCharsets;
import java.nio.file.Files;
import java.nio.file.Path;
import java.util.ArrayList;
import java.util.Arrays;
import java.util.List;
import java.util.regex.Matcher;
import java.util.regex.Pattern;

/** Some rules of ../shared/LANGUAGE.md that can be seen from outside; it runs in the project's folder. */
public final class LanguageTest {
    private static final Path SOURCE = Path.of("src/main/java/SavingsHall.java");
    private static final List<String> IMPORTS = List.of("import java.util.ArrayList;", "import java.util.Arrays;");
    private static final String[] NOT_IN_CODE = {
        "->", "::", "Exact(", "finally", "synchronized", "assert ", "System.out", "static {", "package ", "Exception e)",
        "catch (", ".equals(", "hashCode", "toString", "new Thread", "Random", "currentTime", "getMessage",
        "while (true)", "for (;;)",
    };
    /** Rule 4, and the lists of rule 3: what is called of the library. */
    private static final List<String> LIBRARY = List.of("Math.min", "Math.max", "Arrays.fill");
    private static final List<String> EXCEPTIONS = List.of("IllegalStateException", "IllegalArgumentException",
            "IndexOutOfBoundsException");
    private static final int MOST_LINES = 60;
    private static final int MOST_PARAMETERS = 7;
    private static final int MOST_CLASSES = 12;
    private static final int MOST_FIELDS = 20;
    private static boolean wrong;

    public static void main(String[] args) throws IOException {
        List<String> lines = Files.readAllLines(SOURCE, StandardCharsets.US_ASCII);
        for (String line : lines) {
            checkLine(line.trim());
        }
        checkLengths(lines);
        List<Class<?>> classes = new ArrayList<>(Arrays.asList(SavingsHall.class.getDeclaredClasses()));
        classes.add(SavingsHall.class);
        check(classes.size() <= MOST_CLASSES, "rule 11: " + classes.size() + " classes");
        classes.forEach(LanguageTest::checkClass);
        System.out.println(wrong ? "the language is wrong" : "the language is right");
        if (wrong) {
            System.exit(1);
        }
    }

    private static void check(boolean right, String what) {
        if (!right) {
            wrong = true;
            System.out.println("outside the language: " + what);
        }
    }

    private static void checkLine(String code) {
        if (code.startsWith("//") || code.startsWith("/*") || code.startsWith("*")) {
            return;
        }
        check(!code.startsWith("import ") || IMPORTS.contains(code), code);
        for (String word : NOT_IN_CODE) {
            check(!code.contains(word), code);
        }
        Matcher called = Pattern.compile("\\b[A-Z]\\w*\\.\\w+").matcher(code);
        while (called.find()) {
            check(LIBRARY.contains(called.group()), "rule 4: " + code);
        }
        Matcher thrown = Pattern.compile("\\bthrow (.*)").matcher(code);
        while (thrown.find()) {
            boolean plain = EXCEPTIONS.stream().anyMatch(e -> thrown.group(1).matches("new " + e + "\\(\"[^\"]*\"\\);"));
            check(plain, "rule 6: " + code);
        }
    }

    /** Methods of the class, and of those inside it, by the ways their lines are set in. */
    private static void checkLengths(List<String> lines) {
        for (String indent : new String[] {"    ", "        "}) {
            int start = 0;
            for (int i = 0; i < lines.size(); i++) {
                String line = lines.get(i);
                if (line.matches(indent + "\\w.*\\(.*")) {
                    start = i;
                } else if (line.equals(indent + "}")) {
                    check(i - start < MOST_LINES, "rule 11: a method of " + (i - start) + " lines ends at " + (i + 1));
                }
                start = line.matches(" *(private|public) .*class .*") ? i : start;
            }
        }
    }

    private static void checkClass(Class<?> checked) {
        List<Executable> executables = new ArrayList<>(Arrays.asList(checked.getDeclaredMethods()));
        executables.addAll(Arrays.asList(checked.getDeclaredConstructors()));
        for (Executable executable : executables) {
            check(executable.getParameterCount() <= MOST_PARAMETERS, "rule 11: the parameters of " + executable);
            check(!executable.isSynthetic(), "rule 2: " + executable);
        }
        int fields = 0;
        for (Field field : checked.getDeclaredFields()) {
            boolean fixed = Modifier.isStatic(field.getModifiers());
            fields += fixed ? 0 : 1;
            check(!fixed || Modifier.isFinal(field.getModifiers()), "rule 5: " + field);
            check(!fixed || field.getType() == int.class || field.getType() == long.class, "rule 5: " + field);
        }
        check(fields <= MOST_FIELDS, "rule 11: " + fields + " fields of " + checked);
        check(checked == SavingsHall.class || Modifier.isStatic(checked.getModifiers()), "rule 2: " + checked);
    }
}
