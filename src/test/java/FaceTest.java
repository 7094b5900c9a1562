import java.io.IOException;
import java.lang.reflect.Constructor;
import java.lang.reflect.Field;
import java.lang.reflect.Method;
import java.lang.reflect.Modifier;
import java.nio.file.Files;
import java.nio.file.Path;
import java.util.Arrays;
import java.util.HashSet;
import java.util.List;
import java.util.Set;
import java.util.TreeSet;
import java.util.regex.Matcher;
import java.util.regex.Pattern;

/** The public face, and the rules of LANGUAGE.md that a search can see. */
public final class FaceTest {
    private static final String[] METHODS = {
        "int feed(int,int,int,int,int)", "boolean end(int)", "int place(int)", "int line()",
        "boolean table(int,int)", "int turn(int,int,int,int)", "boolean flip(int,int,int,int)",
        "boolean mirror(int,int)", "boolean rename(int,int)", "boolean without(int,int,int)",
        "int lawful(int)", "int why(int)", "int rim(int)",
        "int onRim(int,int) throws java.util.NoSuchElementException", "int layer(int,int)",
        "int code(int)", "boolean named(int,int)", "int like(int,int)", "boolean swept(int,int)",
        "int sweep(int)", "int octet(int) throws java.util.NoSuchElementException",
        "int figures(int,int,boolean)", "int lines(int,int)", "int inside(int,int,int,int,int)",
        "int kinds(int)", "boolean kind(int,int,int)", "int which(int)", "int points(int)"
    };
    private static final String[] FORBIDDEN = {
        "->", "::", "\\btry\\b", "\\bcatch\\b", "\\bfinally\\b", "\\bassert\\b", "\\bsynchronized\\b",
        "\\bpackage\\b", "\\bvar\\b", "\\bfloat\\b", "\\bdouble\\b", "Exact\\b", "static\\s*\\{",
        "\\bSystem\\.(?!arraycopy)", "\\bRandom\\b", "\\bThread\\b", "\\bprotected\\b", "\\bMap\\b"
    };

    private static final Set<String> LIBRARY = Set.of("Math.abs", "Math.min", "Integer.bitCount",
            "Integer.compare", "System.arraycopy", "Arrays.fill");
    private static final int MOST_CLASSES = 12;
    private static final int MOST_FIELDS = 20;
    private static final int MOST_LINES = 60;

    private FaceTest() {
    }

    public static void main(String[] args) throws IOException {
        checkFace();
        checkSource(Files.readString(Path.of("src/main/java/PointTables.java")));
        Check.finish();
    }

    private static void checkFace() {
        Check.part("the face");
        Class<?> c = PointTables.class;
        int classes = c.getDeclaredClasses().length + 1;
        Check.due(classes + " classes are too many", classes > MOST_CLASSES, false);
        Check.due("public and final", Modifier.isPublic(c.getModifiers()) && Modifier.isFinal(c.getModifiers()), true);
        Set<String> got = new TreeSet<>();
        Set<String> names = new HashSet<>();
        for (Method m : c.getDeclaredMethods()) {
            if (!Modifier.isPrivate(m.getModifiers())) {
                got.add(m.toGenericString().replace("public ", "").replace("PointTables.", ""));
                names.add(m.getName());
            }
        }
        Set<String> want = new TreeSet<>(Arrays.asList(METHODS));
        Check.due("the methods " + got, got.equals(want), true);
        for (Class<?> inner : c.getDeclaredClasses()) {
            int how = inner.getModifiers();
            Check.due(inner + " is static", Modifier.isStatic(how), true);
            Check.due(inner + " is seen outside", Modifier.isPublic(how) || Modifier.isProtected(how), false);
            checkNames(inner, names);
            checkFields(inner);
        }
        checkNames(c, names);
        checkFields(c);
        checkConstructor(c.getDeclaredConstructors());
        for (Field f : c.getDeclaredFields()) {
            boolean isNone = f.toString().equals("public static final int PointTables.NONE");
            Check.due(f + " is private or NONE", Modifier.isPrivate(f.getModifiers()) || isNone, true);
        }
    }

    private static void checkConstructor(Constructor<?>[] all) {
        Check.due("constructors", all.length, 1);
        Check.due("the constructor", all[0].toString(), "public PointTables()");
    }

    private static void checkFields(Class<?> c) {
        int fields = 0;
        for (Field f : c.getDeclaredFields()) {
            boolean isStatic = Modifier.isStatic(f.getModifiers());
            Check.due(f + " is final, if static", !isStatic || Modifier.isFinal(f.getModifiers()), true);
            fields += isStatic ? 0 : 1;
        }
        Check.due(c + " has too many fields: " + fields, fields > MOST_FIELDS, false);
    }

    private static void checkNames(Class<?> c, Set<String> names) {
        for (Method m : c.getDeclaredMethods()) {
            boolean shared = !Modifier.isPublic(m.getModifiers()) && names.contains(m.getName());
            Check.due(m + " bears a public name", shared, false);
            Check.due(m + " has more than seven parameters", m.getParameterCount() > 7, false);
        }
    }

    private static void checkSource(String source) {
        Check.part("the source");
        String code = source.replaceAll("(?s)/\\*.*?\\*/", "").replaceAll("//[^\n]*", "");
        for (String word : FORBIDDEN) {
            Check.due("has " + word, Pattern.compile(word).matcher(code).find(), false);
        }
        checkLengths(source);
        checkLibrary(code);
        Matcher imports = Pattern.compile("import ([^;]+);").matcher(code);
        while (imports.find()) {
            boolean listed = Set.of("java.util.Arrays", "java.util.NoSuchElementException").contains(imports.group(1));
            Check.due("import " + imports.group(1), listed, true);
        }
        Matcher thrown = Pattern.compile("throw new (\\w+)").matcher(code);
        while (thrown.find()) {
            Check.due("throws " + thrown.group(1), thrown.group(1).equals("NoSuchElementException"), true);
        }
    }

    /** What a line with a "(" opens, a method or a part of one, goes to the next "}" as far in. */
    private static void checkLengths(String source) {
        List<String> lines = source.lines().toList();
        for (int from = 0; from < lines.size(); from++) {
            String opens = lines.get(from);
            if (opens.matches(" +\\w.*\\(.*\\{")) {
                String closes = opens.replaceAll("\\w.*", "}");
                int length = lines.subList(from, lines.size()).indexOf(closes) + 1;
                Check.due(opens.trim() + " has " + length + " lines", length > 0 && length <= MOST_LINES, true);
            }
        }
    }

    private static void checkLibrary(String code) {
        Set<String> own = new HashSet<>();
        for (Class<?> inner : PointTables.class.getDeclaredClasses()) {
            own.add(inner.getSimpleName());
        }
        Matcher calls = Pattern.compile("\\b([A-Z]\\w*)\\.\\w+(?=\\()").matcher(code);
        while (calls.find()) {
            boolean listed = own.contains(calls.group(1)) || LIBRARY.contains(calls.group());
            Check.due(calls.group() + " is listed", listed, true);
        }
    }
}
