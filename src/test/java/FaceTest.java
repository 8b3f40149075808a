import java.io.IOException;
import java.lang.reflect.Constructor;
import java.lang.reflect.Field;
import java.lang.reflect.Method;
import java.lang.reflect.Modifier;
import java.nio.file.Files;
import java.nio.file.Path;
import java.util.Set;
import java.util.TreeSet;
import java.util.regex.Matcher;
import java.util.regex.Pattern;

/** The public face, and the rules of LANGUAGE.md that can be seen from outside or from the text. */
public final class FaceTest {
    private static final Check CHECK = new Check("FaceTest");
    private static final String SOURCE = "src/main/java/BackYear.java";
    private static final String FACE = "int people(int); int deed(int, int, int); int told(int, int); "
        + "int set(int, int, int); int worth(int, int, int); int worthOf(int, int); int last(int); int type(int); "
        + "int text(); int count(int); int right(int); int back(); int year(); int value(int); int bears(int); "
        + "int best(int, int, int); int wanted(int, int); int self(); int turn(int); int bargain(int, int, int, int); "
        + "int due(int); int payments(); int forgotten(int, int, int); long upper(); long lower(); "
        + "int comes(int, int); int image(); int restore(); int judged(int, int, int); "
        + "int net(int, int, int, int, int, int); int film(int, int, int); int sheet(int, int, int); int drop(int); "
        + "int item(int, int, int, long); int copy(int, int, int, int, int)";

    private FaceTest() {
    }

    private static void constants() {
        CHECK.due("BAD", BackYear.BAD, -1);
        CHECK.due("NOT", BackYear.NOT, -2);
        CHECK.due("FULL", BackYear.FULL, -3);
        CHECK.due("NONE", BackYear.NONE, -4);
        CHECK.due("NULL", BackYear.NULL, -11);
        CHECK.due("CAST", BackYear.CAST, -12);
        CHECK.due("INDEX", BackYear.INDEX, -13);
        CHECK.due("SIZE", BackYear.SIZE, -14);
    }

    private static String faceOf(Method method) {
        StringBuilder face = new StringBuilder(method.getReturnType() + " " + method.getName() + "(");
        for (Class<?> type : method.getParameterTypes()) {
            face.append(face.charAt(face.length() - 1) == '(' ? "" : ", ").append(type);
        }
        return face.append(")").toString();
    }

    private static void members() {
        Set<String> due = new TreeSet<>(Set.of(FACE.split("; ")));
        Set<String> found = new TreeSet<>();
        Set<String> names = new TreeSet<>();
        for (Method method : BackYear.class.getDeclaredMethods()) {
            if (Modifier.isPublic(method.getModifiers())) {
                found.add(faceOf(method));
                names.add(method.getName());
                CHECK.holds(method + " is not static", !Modifier.isStatic(method.getModifiers()));
            } else {
                CHECK.holds(method + " is private", Modifier.isPrivate(method.getModifiers()));
            }
        }
        CHECK.holds("the face is " + due + ", found is " + found, due.equals(found));
        CHECK.due("public fields", BackYear.class.getFields().length, 8);
        CHECK.holds("public and final", (BackYear.class.getModifiers() & (Modifier.PUBLIC | Modifier.FINAL)) == 17);
        for (Constructor<?> constructor : BackYear.class.getDeclaredConstructors()) {
            CHECK.due("parameters of " + constructor, constructor.getParameterCount(), 0);
        }
        CHECK.holds("some twelve classes at most", BackYear.class.getDeclaredClasses().length <= 11);
        look(BackYear.class, names);
        for (Class<?> inner : BackYear.class.getDeclaredClasses()) {
            look(inner, names);
            CHECK.holds(inner + " is static", Modifier.isStatic(inner.getModifiers()));
            CHECK.holds(inner + " is not public", !Modifier.isPublic(inner.getModifiers()));
        }
    }

    private static void look(Class<?> one, Set<String> face) {
        int fields = 0;
        for (Field field : one.getDeclaredFields()) {
            boolean constant = Modifier.isStatic(field.getModifiers());
            boolean shown = constant && Modifier.isPublic(field.getModifiers());
            CHECK.holds(field + " is private or of the face", Modifier.isPrivate(field.getModifiers()) || shown);
            CHECK.holds(field + " if static, is final", !constant || Modifier.isFinal(field.getModifiers()));
            fields += constant ? 0 : 1;
        }
        CHECK.holds(one + " has some twenty fields at most: " + fields, fields <= 20);
        for (Method method : one.getDeclaredMethods()) {
            boolean ofTheFace = Modifier.isPublic(method.getModifiers());
            CHECK.holds(method + " has no name of the face", ofTheFace || !face.contains(method.getName()));
            CHECK.holds(method + " has seven parameters at most", method.getParameterCount() <= 7);
        }
    }

    private static void none(String source, String regex) {
        Matcher matcher = Pattern.compile(regex).matcher(source);
        boolean found = matcher.find();
        CHECK.holds("the source has no " + regex + (found ? ", but: " + matcher.group() : ""), !found);
    }

    private static void source() throws IOException {
        String source = Files.readString(Path.of(SOURCE)).replaceAll("(?s)/\\*.*?\\*/", "").replaceAll("//.*", "");
        for (String word : new String[] {"import", "package", "catch", "throw", "finally", "synchronized", "assert",
            "instanceof", "protected", "Object", "HashMap", "Random", "Thread", "String", "var", "double", "float"}) {
            none(source, "\\b" + word + "\\b");
        }
        none(source, "->|::");
        none(source, "\\w+Exact\\(");
        none(source, "System\\.(?!arraycopy)");
        Matcher loops = Pattern.compile("\\bwhile\\b").matcher(source);
        CHECK.due("loops other than for", loops.results().count(), 1);
        lines(source.split("\n"));
    }

    /** Rows are made once, with the objects that hold them; methods stay short. */
    private static void lines(String[] lines) {
        int began = 0;
        for (int i = 0; i < lines.length; i++) {
            boolean makes = Pattern.compile("\\bnew\\b").matcher(lines[i]).find();
            CHECK.holds("new in a field alone: " + lines[i], !makes || lines[i].matches(" +private final .*;"));
            if (lines[i].matches("( {4}| {8})(public|private).*\\) \\{")) {
                began = i;
            }
            if (lines[i].matches("( {4}| {8})\\}")) {
                CHECK.holds("some sixty lines at most, from " + lines[began], i - began < 60);
            }
        }
    }

    /** Each promise has a test that quotes it at its edges. */
    private static void promises() throws IOException {
        StringBuilder tests = new StringBuilder();
        for (String name : new String[] {"Deeds", "Walk", "Walks", "Coming", "Sheets"}) {
            tests.append(Files.readString(Path.of("src/test/java/" + name + "EdgesTest.java")));
        }
        for (int promise = 1; promise <= 36; promise++) {
            CHECK.holds("promise " + promise + " is quoted", tests.indexOf("says(\"Promise " + promise + "\"") >= 0);
        }
    }

    public static void main(String[] args) throws IOException {
        constants();
        members();
        source();
        promises();
        CHECK.end();
    }
}
