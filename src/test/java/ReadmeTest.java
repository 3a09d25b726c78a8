import java.io.File;
import java.io.IOException;
import java.lang.reflect.Method;
import java.lang.reflect.Modifier;
import java.net.URL;
import java.net.URLClassLoader;
import java.nio.file.Files;
import java.nio.file.Path;
import java.util.ArrayList;
import java.util.Comparator;
import java.util.List;
import java.util.regex.Matcher;
import java.util.regex.Pattern;
import java.util.stream.Stream;

/**
 * The calls that README.md shows answer what README.md says. Its blocks of Java are put together to one program: a
 * block that begins with static is a method of it, the others are its statements, and each statement but the making
 * of an object must have a number behind it.
 */
public final class ReadmeTest {
    private static final Due due = new Due();
    private static final Path README = Path.of("README.md");
    private static final Pattern SHOWN = Pattern.compile("(?s)(.*);\\s*// (-?\\d+)(?:: [^\\n]*)?");

    private final StringBuilder methods = new StringBuilder();
    private final StringBuilder statements = new StringBuilder();
    private final List<String> calls = new ArrayList<>();
    private final List<Long> numbers = new ArrayList<>();

    public static void main(String[] args) throws Exception {
        ReadmeTest readme = new ReadmeTest();
        for (String block : blocks()) {
            readme.take(block);
        }
        readme.everyCallIsShown();
        readme.theyAnswerAsShown();
        everyTestIsNamed();
        due.end();
    }

    private static List<String> blocks() throws IOException {
        List<String> blocks = new ArrayList<>();
        Matcher m = Pattern.compile("(?sm)^```java\\n(.*?)^```$").matcher(Files.readString(README));
        while (m.find()) {
            blocks.add(m.group(1));
        }
        due.is("README.md shows how to use it", blocks.size() > 1 ? 1 : 0, 1);
        return blocks;
    }

    private void take(String block) {
        if (block.startsWith("static ")) {
            methods.append(block);
            return;
        }
        String statement = "";
        for (String line : block.split("\n")) {
            statement += line + "\n";
            if (line.replaceAll("//.*", "").trim().endsWith(";")) {
                takeStatement(statement.trim());
                statement = "";
            }
        }
        due.is("all of a block is statements, but " + statement, statement.isBlank() ? 1 : 0, 1);
    }

    private void takeStatement(String statement) {
        if (statement.equals("CardsAtYule x = new CardsAtYule();")) {
            statements.append(statement).append('\n');
            return;
        }
        Matcher m = SHOWN.matcher(statement);
        boolean isShown = m.matches();
        due.is("README.md says what it answers: " + statement, isShown ? 1 : 0, 1);
        if (isShown) {
            statements.append("answers.add((long) ").append(m.group(1)).append(");\n");
            calls.add(m.group(1));
            numbers.add(Long.parseLong(m.group(2)));
        }
    }

    private void everyCallIsShown() {
        for (Method m : CardsAtYule.class.getDeclaredMethods()) {
            if (Modifier.isPublic(m.getModifiers())) {
                boolean isShown = calls.stream().anyMatch(call -> call.startsWith("x." + m.getName() + "("));
                due.is("README.md shows " + m.getName(), isShown ? 1 : 0, 1);
            }
        }
    }

    private void theyAnswerAsShown() throws Exception {
        Path folder = Files.createTempDirectory("readme");
        try {
            List<Long> answers = run(folder);
            due.is("calls that are shown", answers.size(), calls.size());
            for (int i = 0; i < calls.size() && i < answers.size(); i++) {
                due.is("README.md: " + calls.get(i), answers.get(i), numbers.get(i));
            }
        } finally {
            try (Stream<Path> files = Files.walk(folder)) {
                files.sorted(Comparator.reverseOrder()).map(Path::toFile).forEach(File::delete);
            }
        }
    }

    private List<Long> run(Path folder) throws Exception {
        Path source = folder.resolve("Shown.java");
        Files.writeString(source, "public final class Shown {\n" + methods
            + "public static void run(java.util.List<Long> answers) {\n" + statements + "}\n}\n");
        int refused = new ProcessBuilder("javac", "--release", "17", "-cp", System.getProperty("java.class.path"),
            "-d", folder.toString(), source.toString()).inheritIO().start().waitFor();
        due.is("README.md's lines do not compile", refused, 0);
        List<Long> answers = new ArrayList<>();
        if (refused == 0) {
            try (URLClassLoader loader = new URLClassLoader(new URL[] {folder.toUri().toURL()})) {
                loader.loadClass("Shown").getMethod("run", List.class).invoke(null, answers);
            }
        }
        return answers;
    }

    private static void everyTestIsNamed() throws IOException {
        String text = Files.readString(README);
        due.is("README.md says how to run the tests", text.contains("    .ci/run\n") ? 1 : 0, 1);
        try (Stream<Path> files = Files.list(Path.of("src/test/java"))) {
            for (Path file : files.toList()) {
                String name = file.getFileName().toString().replace(".java", "");
                if (name.endsWith("Test")) {
                    due.is("README.md names " + name, text.contains("| " + name + " |") ? 1 : 0, 1);
                }
            }
        }
    }
}
