import java.io.IOException;
import java.lang.reflect.Constructor;
import java.lang.reflect.Field;
import java.lang.reflect.Method;
import java.lang.reflect.Modifier;
import java.nio.file.Files;
import java.nio.file.Path;
import java.util.Arrays;
import java.util.TreeSet;
import java.util.regex.Matcher;
import java.util.regex.Pattern;
import java.util.stream.Collectors;

/** The public face is the document's, and the source keeps to what LANGUAGE.md leaves. */
public final class FaceTest {
    private static final String[] FACE = {
        "int write(int, int, int)", "int fence()", "int flush()",
        "int read(int, int) throws IndexOutOfBoundsException",
        "int plate(int, int) throws IndexOutOfBoundsException",
        "int entry(int, int)", "int states()",
        "int state(int, int, int) throws IndexOutOfBoundsException",
        "int fall(int)", "int store(int)", "int put(int, long)", "int move(int, int)",
        "long get(int) throws IllegalStateException, IndexOutOfBoundsException",
        "int rise()", "boolean isSound()", "int addPut(int, long)", "int addMove(int, int)",
        "int addSure()", "int clear()", "int through(int)", "int gone(int)", "int bad(int, int)",
        "boolean spare(int, int, boolean)", "int least(int)", "int digest(int)", "int status(int)"};

    private static final Check check = new Check();

    private static String names(Class<?>[] types) {
        return Arrays.stream(types).map(Class::getSimpleName).collect(Collectors.joining(", "));
    }

    private static String told(Method m) {
        String thrown = names(m.getExceptionTypes());
        return m.getReturnType().getSimpleName() + " " + m.getName() + "(" + names(m.getParameterTypes()) + ")"
            + (thrown.isEmpty() ? "" : " throws " + thrown);
    }

    private static void face() {
        check.at("the face");
        TreeSet<String> got = new TreeSet<>();
        TreeSet<String> publicNames = new TreeSet<>();
        for (Method m : OrderedDisc.class.getDeclaredMethods()) {
            if (!Modifier.isPrivate(m.getModifiers())) {
                check.is(m.getName() + " is public", Modifier.isPublic(m.getModifiers()), true);
                got.add(told(m));
                publicNames.add(m.getName());
            }
        }
        check.isText("methods", got.toString(), new TreeSet<>(Arrays.asList(FACE)).toString());
        check.is("final", Modifier.isFinal(OrderedDisc.class.getModifiers()), true);
        Constructor<?>[] made = OrderedDisc.class.getDeclaredConstructors();
        check.is("constructors", made.length, 1);
        check.is("public", Modifier.isPublic(made[0].getModifiers()), true);
        check.is("parameters", made[0].getParameterCount(), 0);
        for (Field f : OrderedDisc.class.getDeclaredFields()) {
            check.is(f.getName() + " is private", Modifier.isPrivate(f.getModifiers()), true);
        }
        check.is("classes inside", OrderedDisc.class.getDeclaredClasses().length <= 12, true);
        for (Class<?> inside : OrderedDisc.class.getDeclaredClasses()) {
            inside(inside, publicNames);
        }
    }

    private static void inside(Class<?> c, TreeSet<String> publicNames) {
        check.at(c.getSimpleName());
        check.is("static", Modifier.isStatic(c.getModifiers()), true);
        check.is("not public", Modifier.isPublic(c.getModifiers()), false);
        long fields = Arrays.stream(c.getDeclaredFields()).filter(f -> !Modifier.isStatic(f.getModifiers())).count();
        check.is("some twenty fields", fields <= 20, true);
        for (Method m : c.getDeclaredMethods()) {
            check.is(m.getName() + " has a name of its own", publicNames.contains(m.getName()), false);
            check.is(m.getName() + " takes at most seven", m.getParameterCount() <= 7, true);
        }
    }

    private static void source() throws IOException {
        check.at("the source");
        String text = Files.readString(Path.of("src/main/java/OrderedDisc.java"));
        String code = text.replaceAll("(?s)/\\*.*?\\*/", "").replaceAll("//[^\n]*", "");
        String[] ruledOut = {"->", "::", "\\btry\\b", "\\bcatch\\b", "\\bfinally\\b", "\\bsynchronized\\b", "\\bassert\\b",
            "\\bThread\\b", "System\\.(?!arraycopy)", "Exact\\(", "\\bRandom\\b", "\\bpackage\\b", "@", "\\bvar\\b",
            "\\bdouble\\b", "\\bfloat\\b", "\\bObject\\b", "\\bprotected\\b", "static \\{"};
        for (String pattern : ruledOut) {
            Matcher m = Pattern.compile(pattern).matcher(code);
            check.is(pattern + " is found", m.find(), false);
        }
        check.is("all characters are plain", text.chars().allMatch(c -> c == '\n' || c >= 32 && c < 127), true);
        Matcher imports = Pattern.compile("import ([^;]*);").matcher(code);
        while (imports.find()) {
            check.isText("import", imports.group(1), "java.util.Arrays");
        }
        methodsAreShort(code);
    }

    private static void methodsAreShort(String code) {
        String[] lines = code.split("\n");
        int begun = -1;
        for (int i = 0; i < lines.length; i++) {
            if (lines[i].matches("( {4}| {8})\\w.*\\) .*\\{") && !lines[i].matches(".*\\b(if|for|while|switch|else)\\b.*")) {
                begun = i;
            } else if (begun >= 0 && lines[i].matches("( {4}| {8})\\}")) {
                check.is("a method of some sixty lines at line " + begun, i - begun <= 60, true);
                begun = -1;
            }
        }
    }

    public static void main(String[] args) throws IOException {
        face();
        source();
        check.finish();
    }
}
