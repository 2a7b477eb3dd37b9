import java.io.IOException;
import java.lang.reflect.Constructor;
import java.lang.reflect.Field;
import java.lang.reflect.Method;
import java.lang.reflect.Modifier;
import java.nio.file.Files;
import java.nio.file.Path;
import java.util.Arrays;
import java.util.Set;
import java.util.TreeSet;
import java.util.regex.Matcher;
import java.util.regex.Pattern;

/** The public face, and rules of LANGUAGE.md that can be seen from outside or in the source's words. */
public final class FaceTest {
    private static final String FACE = "int row(int,int,int);int set(int,int,long);int copy(int,int,int,int,int);"
        + "long element(int,int);int show(int,int);int holds(int);int says(int,int);int line(int,int,int,int);"
        + "int read(int);int fault();int empty(int);int put(int,int,int);int tableOf(int,int);int lineOf(int,int,int);"
        + "int bucket(int,int,int);int different(int);int share(int,int,int);int filter(int,int,int);int join(int,int);"
        + "int clear();int filterOf(int,int);int joinOf(int,int);int joinShare(int);int thought(int);int sorting(int);"
        + "int cost(int,int);int plan(int,int);int nodeOf(int,int);int really(int);long sum(int,int);int wrongBy(int);"
        + "int judge(int,int);int drawn(int);int seed(int);int image();int restore();int status(int)";
    /** What LANGUAGE.md leaves out, as far as words tell. */
    private static final String[] BANNED = {"->", "::", "\\bcatch\\b", "\\bfinally\\b", "\\bsynchronized\\b",
        "\\bassert\\b", "\\bthrow\\b", "Exact\\b", "\\bFloat\\.", "\\bDouble\\.", "\\bSystem\\.(?!arraycopy)",
        "^package\\b", "\\bvar\\b", "Arrays\\.(?!fill|copyOf)", "[^\\x00-\\x7f]", "\\bprotected\\b"};

    public static void main(String[] args) throws IOException {
        Class<?> face = HistogramPlans.class;
        due("final", Modifier.isFinal(face.getModifiers()));
        Set<String> want = new TreeSet<>(Arrays.asList(FACE.split(";")));
        Set<String> got = new TreeSet<>();
        Set<String> names = new TreeSet<>();
        for (Method m : face.getDeclaredMethods()) {
            if (Modifier.isPublic(m.getModifiers())) {
                got.add(told(m));
                names.add(m.getName());
            }
        }
        Due.is("methods of the face: " + want + " / " + got, 1, want.equals(got) ? 1 : 0);
        for (Method m : face.getDeclaredMethods()) {
            boolean isOwn = Modifier.isPrivate(m.getModifiers()) && !names.contains(m.getName());
            due("a name of its own: " + m, Modifier.isPublic(m.getModifiers()) || m.isSynthetic() || isOwn);
        }
        for (Field f : face.getDeclaredFields()) {
            due("private: " + f, f.getName().equals("NONE") || Modifier.isPrivate(f.getModifiers()));
        }
        Constructor<?>[] made = face.getDeclaredConstructors();
        due("one constructor", made.length == 1 && made[0].getParameterCount() == 0);
        checkInside(face, names);
        checkFields(face);
        for (Class<?> inside : face.getDeclaredClasses()) {
            checkFields(inside);
        }
        checkSource(Path.of("src/main/java/HistogramPlans.java"));
        Due.end("FaceTest");
    }

    private static void due(String what, boolean isSo) {
        Due.is(what, 1, isSo ? 1 : 0);
    }

    private static String told(Method m) {
        StringBuilder text = new StringBuilder(m.getReturnType() + " " + m.getName() + "(");
        for (Class<?> type : m.getParameterTypes()) {
            text.append(text.charAt(text.length() - 1) == '(' ? "" : ",").append(type);
        }
        return text.append(")").toString();
    }

    private static void checkInside(Class<?> face, Set<String> names) {
        due("at most twelve classes", face.getDeclaredClasses().length < 12);
        for (Class<?> inside : face.getDeclaredClasses()) {
            due("static, not public: " + inside, Modifier.isStatic(inside.getModifiers())
                && !Modifier.isPublic(inside.getModifiers()) && !Modifier.isProtected(inside.getModifiers()));
            for (Method m : inside.getDeclaredMethods()) {
                due("a name of its own: " + m, !names.contains(m.getName()));
                due("at most seven parameters: " + m, m.getParameterCount() <= 7);
            }
        }
    }

    /** Some twenty fields beside constants; what is static is final, a number or a text. */
    private static void checkFields(Class<?> type) {
        int fields = 0;
        for (Field f : type.getDeclaredFields()) {
            if (Modifier.isStatic(f.getModifiers())) {
                boolean isPlain = f.getType().isPrimitive() || f.getType() == String.class;
                due("a constant: " + f, Modifier.isFinal(f.getModifiers()) && isPlain);
            } else {
                fields++;
            }
        }
        due("at most twenty fields: " + type, fields <= 20);
    }

    private static void checkSource(Path path) throws IOException {
        String source = Files.readString(path);
        String code = source.replaceAll("(?s)/\\*.*?\\*/", "").replaceAll("//[^\\n]*", "");
        for (String banned : BANNED) {
            Matcher matcher = Pattern.compile(banned, Pattern.MULTILINE).matcher(code);
            due("without " + banned, !matcher.find());
        }
        Matcher imports = Pattern.compile("import ([^;]*);").matcher(code);
        while (imports.find()) {
            due("import of " + imports.group(1), imports.group(1).equals("java.util.Arrays"));
        }
        checkNothingIsMadeByCalls(code);
        checkMethodsAreShort(code);
    }

    /** A method ends with the first brace that stands as far in as its head. */
    private static void checkMethodsAreShort(String code) {
        String[] lines = code.split("\n");
        Pattern head = Pattern.compile("( {4}| {8})(?!class|for|if|while|switch|static final class)\\w.*\\) \\{");
        int methods = 0;
        for (int i = 0; i < lines.length; i++) {
            Matcher matcher = head.matcher(lines[i]);
            if (matcher.matches()) {
                int end = i;
                while (end < lines.length - 1 && !lines[end].equals(matcher.group(1) + "}")) {
                    end++;
                }
                methods++;
                due("at most sixty lines: " + lines[i].trim(), end - i < 60);
            }
        }
        due("methods were found", methods > 100);
    }

    /** All calls of a run live in one room: so what is made is made with the object, in fields and constructors. */
    private static void checkNothingIsMadeByCalls(String code) {
        for (String line : code.split("\n")) {
            if (line.contains(" new ")) {
                boolean isField = line.matches("    +(private )?final .* = new .*;");
                boolean isInConstructor = line.matches(" +(shelves|nodes|tables)\\[\\w\\] = new \\w+\\(\\);");
                due("made with the object: " + line.trim(), isField || isInConstructor);
            }
        }
    }
}
