import java.io.IOException;
import java.lang.reflect.Constructor;
import java.lang.reflect.Field;
import java.lang.reflect.Member;
import java.lang.reflect.Method;
import java.lang.reflect.Modifier;
import java.nio.file.Files;
import java.nio.file.Path;
import java.util.Arrays;
import java.util.Set;
import java.util.TreeSet;
import java.util.regex.Matcher;
import java.util.regex.Pattern;
import java.util.stream.Collectors;

/** The class has the document's face and nothing more, and keeps to rules of LANGUAGE.md that can be looked up. */
public final class FaceTest {
    private static final String[] FACE = {
        "int add(boolean, int, int) throws IllegalStateException",
        "void prepare()",
        "void kind(int) throws IllegalArgumentException",
        "boolean next() throws IllegalStateException",
        "int pair(int) throws IllegalArgumentException",
        "int mark() throws IllegalStateException",
        "int back() throws IllegalStateException",
        "boolean seek(int) throws IllegalStateException",
        "void rewind() throws IllegalStateException",
        "long count(int) throws IllegalArgumentException, IllegalStateException",
        "int rows(boolean, boolean) throws IllegalStateException",
        "int groups() throws IllegalStateException, UnsupportedOperationException",
        "long group(int, int) throws IllegalArgumentException, IllegalStateException",
        "int sorted(boolean, int, int) throws IllegalArgumentException, IllegalStateException",
        "long about(int) throws IllegalArgumentException",
        "void clear()",
    };

    /** What the rules leave out, as it would stand in the source. */
    private static final String[] RULED_OUT = {
        "\\bimport\\b", "\\bpackage\\b", "->", "::", "\\bfinally\\b", "\\bsynchronized\\b", "\\bassert\\b", "Exact\\(",
        "\\bgetMessage\\b", "\\bSystem\\.(?!arraycopy)", "\\bThread\\b", "\\bObject\\b", "\\bdouble\\b", "\\bfloat\\b",
        "\\bstatic\\s*\\{", "\\btry\\b", "\\bjava\\.", "\\bvar\\b", "while \\(true\\)", "\\bfor \\(;;",
    };

    private static int wrong = 0;

    private static void check(boolean holds, String what) {
        if (!holds) {
            wrong++;
            System.out.println("not as due: " + what);
        }
    }

    private static String list(Class<?>[] types) {
        return Arrays.stream(types).map(Class::getSimpleName).collect(Collectors.joining(", "));
    }

    private static String told(Method m) {
        String thrown = list(m.getExceptionTypes());
        return m.getReturnType() + " " + m.getName() + "(" + list(m.getParameterTypes()) + ")"
                + (thrown.isEmpty() ? "" : " throws " + thrown);
    }

    private static boolean isHidden(Member member) {
        return Modifier.isPrivate(member.getModifiers()) || member.isSynthetic();
    }

    private static void face() throws ReflectiveOperationException {
        Class<JoinDesk> type = JoinDesk.class;
        check(Modifier.isPublic(type.getModifiers()) && Modifier.isFinal(type.getModifiers()), "a public final class");
        Set<String> seen = new TreeSet<>();
        for (Method m : type.getDeclaredMethods()) {
            if (!isHidden(m)) {
                seen.add(told(m));
                check(Modifier.isPublic(m.getModifiers()) && !Modifier.isStatic(m.getModifiers()), "public: " + told(m));
            }
        }
        check(seen.equals(new TreeSet<>(Arrays.asList(FACE))), "the methods are " + seen);
        Constructor<?>[] made = type.getDeclaredConstructors();
        check(made.length == 1 && list(made[0].getParameterTypes()).equals("int, int, int")
                && Modifier.isPublic(made[0].getModifiers()), "the constructor");
        for (Field f : type.getDeclaredFields()) {
            check(isHidden(f) || f.getName().equals("NONE"), "a field that is seen: " + f.getName());
            check(!Modifier.isStatic(f.getModifiers()) || Modifier.isFinal(f.getModifiers()), "static, not final: " + f.getName());
        }
        Field none = type.getField("NONE");
        check(none.getType() == int.class && none.getInt(null) == -1, "NONE");
    }

    private static void ownPrivateMethods() {
        Set<String> seen = new TreeSet<>();
        for (Method m : JoinDesk.class.getDeclaredMethods()) {
            if (!m.isSynthetic()) {
                check(seen.add(m.getName()), "rule 1: a private method has the name of a public one: " + m.getName());
                check(m.getParameterCount() <= 7, "rule 11: seven parameters: " + m);
            }
        }
    }

    /** A method begins at a line that ends with an open brace, inside the class or a class inside it. */
    private static void lengths(String text) {
        Pattern methods = Pattern.compile("(?m)^( {4}| {8})(?! )[^\\n=]*\\)[^\\n;=]*\\{\\n((?:\\1 +[^\\n]*\\n|\\n)*)\\1\\}\\n");
        Matcher found = methods.matcher(text);
        int methodsSeen = 0;
        while (found.find()) {
            methodsSeen++;
            check(found.group(2).lines().count() < 60, "rule 11: short methods: " + found.group().lines().findFirst().get());
        }
        check(methodsSeen > FACE.length, "the methods were found in the source");
    }

    private static void classesInside() {
        Set<String> publicNames = Arrays.stream(JoinDesk.class.getMethods()).filter(m -> m.getDeclaringClass() == JoinDesk.class)
                .map(Method::getName).collect(Collectors.toSet());
        Class<?>[] inside = JoinDesk.class.getDeclaredClasses();
        check(inside.length < 12, "rule 11: at most some twelve classes");
        for (Class<?> c : inside) {
            check(Modifier.isStatic(c.getModifiers()), "rule 1: static: " + c.getSimpleName());
            for (Method m : c.getDeclaredMethods()) {
                check(!publicNames.contains(m.getName()), "rule 1: the name of a public method: " + m);
                check(m.getParameterCount() <= 7, "rule 11: seven parameters: " + m);
            }
            check(Arrays.stream(c.getDeclaredFields()).filter(f -> !Modifier.isStatic(f.getModifiers())).count() <= 20,
                    "rule 11: fields of " + c.getSimpleName());
        }
    }

    private static void source() throws IOException {
        String text = Files.readString(Path.of("src/main/java/JoinDesk.java"));
        String code = text.replaceAll("(?s)/\\*.*?\\*/", " ").replaceAll("//[^\n]*", " ").replaceAll("\"[^\"\n]*\"", "\"\"");
        for (String out : RULED_OUT) {
            Matcher found = Pattern.compile(out).matcher(code);
            check(!found.find(), "the source has " + out);
        }
        lengths(text);
        check(text.chars().allMatch(c -> c < 256), "rule 3: characters 0 to 255");
        Matcher made = Pattern.compile("\\bnew (\\w+)").matcher(code.substring(code.indexOf("public int add")));
        Set<String> names = Set.of("int", "long", "Span", "Position", "IllegalStateException", "IllegalArgumentException",
                "UnsupportedOperationException");
        while (made.find()) {
            check(names.contains(made.group(1)), "made outside a constructor: " + made.group(1));
        }
    }

    public static void main(String[] args) throws Exception {
        face();
        ownPrivateMethods();
        classesInside();
        source();
        System.out.println(wrong == 0 ? "the face is as due" : wrong + " things are not as due");
        if (wrong != 0) {
            System.exit(1);
        }
    }
}
