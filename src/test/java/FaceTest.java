import java.io.IOException;
import java.lang.reflect.Constructor;
import java.lang.reflect.Field;
import java.lang.reflect.Member;
import java.lang.reflect.Method;
import java.lang.reflect.Modifier;
import java.nio.file.Files;
import java.nio.file.Path;
import java.util.ArrayList;
import java.util.List;
import java.util.Set;
import java.util.TreeSet;

/** The class has the document's public face, as the document's own text tells it, and nothing open beside it. */
public final class FaceTest {
    private static final Due due = new Due();
    private static final Path DOCUMENT = Path.of("../shared/DOC.md");
    private static final Path SOURCE = Path.of("src/main/java/CardsAtYule.java");
    private static final String FACE = """
        public final class CardsAtYule {
            public static final int NONE = -1;
            public CardsAtYule();
            public int feed(int a, int b, int c, int d, int e);
            public int end(int n);
            public int land();
            public int fault(int what);
            public int person(int person, int what);
            public int pair(int pair, int what);
            public int of(int person, int other);
            public int does(int rule, int last, int ahead);
            public int sends(int pair, int side, int year);
            public int got(int pair, int side, int year);
            public int state(int pair, int year);
            public int cards(int year, int what);
            public int list(int person, int year);
            public int mantel(int person, int year);
            public int whose(int person, int year);
            public int hurts(int person, int what);
            public int cost(int person);
            public int dearest();
            public int last(int pair);
            public int over();
            public int poorest();
            public int odds(int pair);
            public int streak(int pair, int what);
            public int fate(int rule, int other, int state, int what);
            public int goes(int pair, int what);
            public int basin(int rule, int other, int what);
            public int longest(int rule, int other);
            public int faithful(int rule);
            public int lost(int pair, int side, int i);
            public int back(int pair, int side);
            public int strike(int year);
            public int saves(int year);
            public int mildest();
            public long alive(int pair, int n, int what);
            public long both(int pair, int n, int what);
            public long mean(int pair, int n, int what);
            public int ending(int pair, int side, int n);
            public int step(int pair, int side, int n, int i);
            public int keeping(int pair, int side, int n);
            public int pen(int pair, int side, int n, int i);
            public int quit(int pair, int side, int year);
            public int when(int pair, int side);
            public int best(int person);
            public int bestCost(int person);
            public int family(int set);
            public int together(int set);
            public int fits(int slot, int pair);
            public long which(int slot, int pair, int side);
            public int begun(int slot, int pair);
            public int odd(int slot, int pair);
            public int life(int seed, int what);
            public int lives(int seed, int pair);
            public int lasts(int seed, int n, int pair);
            public int train(int person, int what, int n);
            public int begin(int pair, int state);
            public int lose(int pair, int side, int year, int is);
            public int calls(int year, int is);
            public int count(int what);
            public int keep(int k);
            public int on(int k);
            public int row(int slot, int width, int n);
            public int write(int slot, int i, long v);
            public int paste(int slot, int i, int to, int k, int n);
        }
        """;

    public static void main(String[] args) throws Exception {
        List<String> face = trimmed(FACE.lines().toList());
        if (Files.exists(DOCUMENT)) {
            theDocumentHasIt(face);
        }
        everyMemberIsThere(face);
        nothingBesideIt(face);
        theClassItself();
        noneIsMinusOne();
        textHasTheSameLines(face);
        due.end();
    }

    private static void yes(String name, boolean is) {
        due.is(name, is ? 1 : 0, 1);
    }

    private static List<String> trimmed(List<String> lines) {
        List<String> trimmed = new ArrayList<>();
        for (String line : lines) {
            trimmed.add(line.trim());
        }
        return trimmed;
    }

    /** The document has the same lines, one behind the other. */
    private static void theDocumentHasIt(List<String> face) throws IOException {
        List<String> lines = trimmed(Files.readAllLines(DOCUMENT));
        int from = lines.indexOf(face.get(0));
        yes("the document has a face", from >= 0);
        for (int i = 0; from >= 0 && i < face.size(); i++) {
            yes("the document has " + face.get(i), from + i < lines.size() && lines.get(from + i).equals(face.get(i)));
        }
        promisesHaveTheirFace(face);
    }

    /** Each promise but the first begins with the line of the face whose name it bears. */
    private static void promisesHaveTheirFace(List<String> face) throws IOException {
        List<String> lines = Files.readAllLines(DOCUMENT);
        int promises = 0;
        for (int i = 0; i + 2 < lines.size(); i++) {
            if (lines.get(i).startsWith("## Promise ")) {
                String call = lines.get(i + 2).replaceAll("^`([^`]*)`.*", "$1");
                yes(lines.get(i) + " has a line of the face: " + call, face.contains("public " + call + ";"));
                promises++;
            }
        }
        due.is("promises", promises, 64);
        due.is("lines of the face but the class, the constant and the end", face.size() - 3, promises);
    }

    private static String shape(String line) {
        return line.replaceAll(" \\w+(?=[,)])", "").replaceAll("[;{]", "").trim();
    }

    private static String shapeOf(Member member, Class<?>[] parameters, String type) {
        List<String> types = new ArrayList<>();
        for (Class<?> parameter : parameters) {
            types.add(parameter.getName());
        }
        String kind = Modifier.toString(member.getModifiers());
        return kind + " " + type + "(" + String.join(", ", types) + ")";
    }

    /** All that is not private, in the words of the face. */
    private static Set<String> open() {
        Set<String> open = new TreeSet<>();
        for (Method m : CardsAtYule.class.getDeclaredMethods()) {
            if (!Modifier.isPrivate(m.getModifiers()) && !m.isSynthetic()) {
                open.add(shapeOf(m, m.getParameterTypes(), m.getReturnType().getName() + " " + m.getName()));
            }
        }
        for (Constructor<?> k : CardsAtYule.class.getDeclaredConstructors()) {
            if (!Modifier.isPrivate(k.getModifiers())) {
                open.add(shapeOf(k, k.getParameterTypes(), k.getName()));
            }
        }
        for (Field f : CardsAtYule.class.getDeclaredFields()) {
            if (!Modifier.isPrivate(f.getModifiers()) && !f.isSynthetic()) {
                open.add(Modifier.toString(f.getModifiers()) + " " + f.getType().getName() + " " + f.getName() + " = -1");
            }
        }
        return open;
    }

    private static void everyMemberIsThere(List<String> face) {
        Set<String> open = open();
        for (String line : face.subList(1, face.size() - 1)) {
            yes("the class has " + line, open.contains(shape(line)));
        }
    }

    private static void nothingBesideIt(List<String> face) {
        Set<String> asTold = new TreeSet<>();
        for (String line : face.subList(1, face.size() - 1)) {
            asTold.add(shape(line));
        }
        for (String member : open()) {
            yes("the document has " + member, asTold.contains(member));
        }
        for (Class<?> inside : CardsAtYule.class.getDeclaredClasses()) {
            int modifiers = inside.getModifiers();
            yes(inside + " is not open", !Modifier.isPublic(modifiers) && !Modifier.isProtected(modifiers));
            yes(inside + " is static", Modifier.isStatic(modifiers));
        }
    }

    private static void theClassItself() {
        Class<?> c = CardsAtYule.class;
        yes("public and final, no more", c.getModifiers() == (Modifier.PUBLIC | Modifier.FINAL));
        yes("of no other class", c.getSuperclass() == Object.class);
        due.is("interfaces", c.getInterfaces().length, 0);
        yes("without a package", c.getPackageName().isEmpty());
        yes("on its own", c.getEnclosingClass() == null);
    }

    private static void noneIsMinusOne() throws ReflectiveOperationException {
        due.is("NONE", CardsAtYule.NONE, -1);
        due.is("NONE, asked of the class", CardsAtYule.class.getField("NONE").getInt(null), -1);
    }

    /** With the names of the parameters too; and the file has no other line that begins with public. */
    private static void textHasTheSameLines(List<String> face) throws IOException {
        Set<String> heads = new TreeSet<>();
        for (String line : Files.readAllLines(SOURCE)) {
            if (line.trim().startsWith("public ") || line.trim().startsWith("protected ")) {
                heads.add(line.trim().replaceAll(" \\{$", ";"));
            }
        }
        for (String line : face.subList(0, face.size() - 1)) {
            String head = line.replaceAll(" \\{$", ";");
            yes("the text has " + head, heads.remove(head));
        }
        for (String head : heads) {
            yes("the document has " + head, false);
        }
    }
}
