import java.lang.reflect.Constructor;
import java.lang.reflect.Field;
import java.lang.reflect.Method;
import java.lang.reflect.Modifier;
import java.nio.file.Files;
import java.nio.file.Path;
import java.util.List;
import java.util.Set;
import java.util.TreeSet;
import java.util.regex.Matcher;
import java.util.regex.Pattern;

/** The rules of LANGUAGE.md that can be looked up in the class and its text. */
public final class LanguageTest {
    private static final Due due = new Due();
    private static final Path SOURCE = Path.of("src/main/java/CardsAtYule.java");

    public static void main(String[] args) throws Exception {
        String text = Files.readString(SOURCE);
        words(text);
        face(text);
        methods(text);
        due.end();
    }

    private static void absent(String what, String regex, String text) {
        Matcher m = Pattern.compile(regex).matcher(text);
        boolean found = m.find();
        due.is(what + (found ? " at " + m.group() : ""), found ? 1 : 0, 0);
    }

    private static void words(String text) {
        String code = text.replaceAll("(?s)/\\*.*?\\*/", "").replaceAll("//[^\n]*", "").replaceAll("\"[^\"]*\"", "\"\"");
        absent("throwing or catching", "\\b(throw|throws|try|catch|finally|synchronized|assert|volatile|native)\\b", code);
        absent("lambdas and references", "->|::", code);
        absent("a library function that ends in Exact", "Exact\\b", code);
        absent("a package", "(?m)^package ", code);
        absent("another import", "import (?!java\\.util\\.Arrays;)", code);
        absent("clocks and chance", "\\b(Random|System\\.(?!arraycopy)|Thread|File|Math\\.random)\\b", code);
        absent("a static block", "static\\s*\\{", code);
        absent("a static field that is not final", "static (?!final|int |long |boolean |void |class)", code);
        absent("other than ASCII", "[^\\x00-\\x7f]", text);
        absent("equals and its like of objects", "\\b(hashCode|toString)\\b", code);
        absent("more than one dimension", "\\[\\]\\[\\]", code);
    }

    private static void face(String text) {
        Class<?> c = CardsAtYule.class;
        due.is("public and final", c.getModifiers() & (Modifier.PUBLIC | Modifier.FINAL), Modifier.PUBLIC | Modifier.FINAL);
        Set<String> open = new TreeSet<>();
        for (Method m : c.getDeclaredMethods()) {
            if (Modifier.isPublic(m.getModifiers())) {
                open.add(m.getName());
            } else {
                due.is(m.getName() + " is private", Modifier.isPrivate(m.getModifiers()) ? 1 : 0, 1);
            }
        }
        for (Method m : c.getDeclaredMethods()) {
            boolean isHidden = !Modifier.isPublic(m.getModifiers());
            due.is(m + " has a name of its own", isHidden && open.contains(m.getName()) ? 1 : 0, 0);
            due.is(m + " has few parameters", m.getParameterCount() <= 7 ? 1 : 0, 1);
        }
        for (Constructor<?> k : c.getDeclaredConstructors()) {
            due.is("constructor", Modifier.isPublic(k.getModifiers()) ? k.getParameterCount() : -1, 0);
        }
        for (Field f : c.getDeclaredFields()) {
            boolean isPublic = Modifier.isPublic(f.getModifiers());
            due.is(f.getName() + " is private or NONE", isPublic == f.getName().equals("NONE")
                && (isPublic || Modifier.isPrivate(f.getModifiers())) ? 1 : 0, 1);
        }
        due.is("classes", c.getDeclaredClasses().length + 1 <= 12 ? 1 : 0, 1);
        for (Class<?> inside : c.getDeclaredClasses()) {
            due.is(inside + " is static and private", inside.getModifiers() & (Modifier.STATIC | Modifier.PRIVATE),
                Modifier.STATIC | Modifier.PRIVATE);
            int fields = 0;
            for (Field f : inside.getDeclaredFields()) {
                fields += Modifier.isStatic(f.getModifiers()) ? 0 : 1;
            }
            due.is(inside + " has few fields", fields <= 20 ? 1 : 0, 1);
            for (Method m : inside.getDeclaredMethods()) {
                due.is(m + " has a name of its own", open.contains(m.getName()) ? 1 : 0, 0);
                due.is(m + " has few parameters", m.getParameterCount() <= 7 ? 1 : 0, 1);
            }
        }
    }

    /** Methods of at most sixty lines, told by the indentation of their first and last. */
    private static void methods(String text) {
        List<String> lines = text.lines().toList();
        for (int i = 0; i < lines.size(); i++) {
            String line = lines.get(i);
            String indent = line.replaceAll("\\S.*", "");
            boolean isMethod = line.endsWith(") {") && (indent.length() == 4 || indent.length() == 8)
                && !line.matches("\\s*(if|for|while|switch|\\}).*");
            if (isMethod) {
                int last = i;
                while (!lines.get(last).equals(indent + "}")) {
                    last++;
                }
                due.is(line.trim() + " is short", last - i <= 60 ? 1 : 0, 1);
            }
            due.is("line " + (i + 1) + " is not too wide", line.length() <= 120 ? 1 : 0, 1);
        }
    }
}
