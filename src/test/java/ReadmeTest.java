import java.io.IOException;
import java.lang.reflect.Method;
import java.lang.reflect.Modifier;
import java.nio.charset.StandardCharsets;
import java.nio.file.Files;
import java.nio.file.Path;
import java.util.ArrayList;
import java.util.Arrays;
import java.util.Comparator;
import java.util.List;
import java.util.TreeSet;
import java.util.regex.Matcher;
import java.util.regex.Pattern;
import java.util.stream.Stream;

/** What README.md shows compiles, answers and throws as it says; it runs in the project's folder. */
public final class ReadmeTest {
    private static final Path README = Path.of("README.md");
    private static final Path SOURCES = Path.of("src");
    private static final Path TESTS = Path.of("src/test/java");
    private static final String[] EXCEPTIONS = {
        "IndexOutOfBoundsException", "IllegalArgumentException", "IllegalStateException",
    };
    /** It cannot be run by a test that it runs. */
    private static final String CI = ".ci/run\n";
    private static boolean wrong;

    public static void main(String[] args) throws IOException, InterruptedException {
        String page = Files.readString(README, StandardCharsets.UTF_8);
        checkExample(page);
        checkExceptions(page);
        checkNamesOfTests(page);
        System.out.println(wrong ? "README.md is wrong" : "README.md is right");
        if (wrong) {
            System.exit(1);
        }
    }

    private static void check(boolean right, String what) {
        if (!right) {
            wrong = true;
            System.out.println("README.md: " + what);
        }
    }

    /** The program is compiled and run by the page's own commands, in a folder that is new. */
    private static void checkExample(String page) throws IOException, InterruptedException {
        List<String> programs = blocks(page, "java");
        List<String> commands = blocks(page, "sh");
        List<String> outputs = blocks(page, "text");
        check(programs.size() == 1 && outputs.size() == 1, "one program, and what it prints");
        check(commands.remove(CI) && Files.isExecutable(Path.of(CI.trim())), "how to run all tests");
        check(commands.size() == 2, "commands for the program, and for one test");
        if (wrong) {
            return;
        }
        Path folder = Files.createTempDirectory("readme");
        try {
            copy(SOURCES, folder);
            Files.writeString(folder.resolve("Example.java"), programs.get(0));
            String printed = run(folder, commands.get(0));
            check(printed.equals(outputs.get(0)), "the program printed\n" + printed);
            String tested = run(folder, commands.get(1));
            check(tested.endsWith(", 0 wrong\n"), "one test printed\n" + tested);
        } finally {
            remove(folder);
        }
    }

    private static List<String> blocks(String page, String kind) {
        List<String> blocks = new ArrayList<>();
        Matcher block = Pattern.compile("^```" + kind + "\n(.*?)^```$", Pattern.MULTILINE | Pattern.DOTALL).matcher(page);
        while (block.find()) {
            blocks.add(block.group(1));
        }
        return blocks;
    }

    private static void copy(Path from, Path into) throws IOException {
        try (Stream<Path> files = Files.walk(from)) {
            for (Path file : files.toList()) {
                Files.copy(file, into.resolve(file.toString()));
            }
        }
    }

    private static void remove(Path folder) throws IOException {
        try (Stream<Path> files = Files.walk(folder)) {
            for (Path file : files.sorted(Comparator.reverseOrder()).toList()) {
                Files.delete(file);
            }
        }
    }

    private static String run(Path folder, String commands) throws IOException, InterruptedException {
        Process process = new ProcessBuilder("sh", "-ec", commands).directory(folder.toFile())
                .redirectErrorStream(true).start();
        String printed = new String(process.getInputStream().readAllBytes(), StandardCharsets.UTF_8);
        check(process.waitFor() == 0, "commands that fail:\n" + commands);
        return printed;
    }

    /** A row for each call, with words where it may throw. */
    private static void checkExceptions(String page) {
        List<String> rows = page.lines().filter(line -> line.startsWith("| `")).toList();
        TreeSet<String> told = new TreeSet<>();
        for (String row : rows) {
            String[] cells = row.split("\\|", -1);
            String name = cells[1].replaceAll("[` ]|\\(.*", "");
            String[] parameters = cells[1].replaceAll(".*\\(|\\).*| ", "").split(",");
            StringBuilder throwing = new StringBuilder(name);
            throwing.append('/').append(parameters[0].isEmpty() ? 0 : parameters.length);
            for (int i = 0; i < EXCEPTIONS.length; i++) {
                throwing.append(cells[2 + i].isBlank() ? "" : " " + EXCEPTIONS[i]);
                checkRanges(name, List.of(parameters), cells[2 + i], EXCEPTIONS[i]);
            }
            told.add(throwing.toString());
        }
        TreeSet<String> due = new TreeSet<>();
        for (Method method : SavingsHall.class.getDeclaredMethods()) {
            if (Modifier.isPublic(method.getModifiers())) {
                StringBuilder throwing = new StringBuilder(method.getName() + "/" + method.getParameterCount());
                Arrays.stream(method.getExceptionTypes()).forEach(e -> throwing.append(' ').append(e.getSimpleName()));
                due.add(throwing.toString());
            }
        }
        check(told.equals(due), "what calls throw is told as " + told);
    }

    /** "cents not 1 to 5" is to be so of 0, 1, 5 and 6, in a hall where the other arguments may be 0. */
    private static void checkRanges(String name, List<String> parameters, String cell, String exception) {
        Matcher range = Pattern.compile("(\\w+) not (-?\\d+) to (-?\\d+)").matcher(cell);
        while (range.find()) {
            int place = parameters.indexOf(range.group(1));
            int least = Integer.parseInt(range.group(2));
            int most = Integer.parseInt(range.group(3));
            for (int value : new int[] {least - 1, least, most, most + 1}) {
                Object[] arguments = new Object[parameters.size()];
                Arrays.fill(arguments, 0);
                arguments[place] = value;
                boolean refused = answer(name, arguments).equals("throws." + exception);
                check(refused == (value < least || value > most), name + " of " + Arrays.toString(arguments));
            }
        }
    }

    private static String answer(String name, Object[] arguments) {
        SavingsHall hall = new SavingsHall();
        hall.pay(hall.client(), 1000);
        hall.buy(0, 0, 10);
        return Calls.answer(hall, name, arguments);
    }

    private static void checkNamesOfTests(String page) {
        Matcher name = Pattern.compile("`(\\w+Test)`").matcher(page);
        int named = 0;
        while (name.find()) {
            named++;
            check(Files.exists(TESTS.resolve(name.group(1) + ".java")), "no test " + name.group(1));
        }
        check(named > 0, "names of tests");
    }
}
