import java.io.IOException;
import java.nio.charset.StandardCharsets;
import java.nio.file.Files;
import java.nio.file.Path;
import java.util.List;

/** Some rules of ../shared/LANGUAGE.md that can be seen line by line; it runs in the project's folder. */
public final class LanguageTest {
    private static final Path SOURCE = Path.of("src/main/java/SavingsHall.java");
    private static final List<String> IMPORTS = List.of("import java.util.ArrayList;", "import java.util.Arrays;");
    private static final String[] NOT_IN_CODE = {
        "->", "::", "Exact(", "finally", "synchronized", "assert ", "System.out", "static {", "package ", "Exception e)",
        "catch (", ".equals(", "hashCode", "toString", "new Thread", "Random", "currentTime", "getMessage",
    };

    public static void main(String[] args) throws IOException {
        boolean wrong = false;
        for (String line : Files.readAllLines(SOURCE, StandardCharsets.US_ASCII)) {
            String code = line.trim();
            boolean remark = code.startsWith("//") || code.startsWith("/*") || code.startsWith("*");
            boolean bad = code.startsWith("import ") && !IMPORTS.contains(code);
            for (String word : NOT_IN_CODE) {
                bad |= !remark && code.contains(word);
            }
            if (bad) {
                wrong = true;
                System.out.println("outside the language: " + code);
            }
        }
        System.out.println(wrong ? "the language is wrong" : "the language is right");
        if (wrong) {
            System.exit(1);
        }
    }
}
