import java.io.IOException;
import java.lang.reflect.Constructor;
import java.lang.reflect.Field;
import java.lang.reflect.Method;
import java.lang.reflect.Modifier;
import java.nio.file.Files;
import java.nio.file.Path;
import java.util.Arrays;
import java.util.HashSet;
import java.util.Set;
import java.util.TreeSet;
import java.util.regex.Matcher;
import java.util.regex.Pattern;

/** The document's face, all of it and nothing else, and those rules of LANGUAGE.md that a text can be asked for. */
public final class FaceTest {
    private static final Path DOC = Path.of("../shared/DOC.md");
    private static final Path MAIN = Path.of("src/main/java/SeaLand.java");
    private static final Due due = new Due();

    public static void main(String[] args) throws IOException {
        face();
        classes();
        words();
        due.end();
    }

    private static void face() throws IOException {
        Set<String> want = new TreeSet<>();
        Pattern line = Pattern.compile("^    public (.*);$", Pattern.MULTILINE);
        Matcher lines = line.matcher(Files.readString(DOC));
        while (lines.find()) {
            want.add(lines.group(1).replaceAll("(int|boolean) \\w+(?=[,)])", "$1"));
        }
        Set<String> got = new TreeSet<>();
        for (Method m : SeaLand.class.getDeclaredMethods()) {
            if (!Modifier.isPrivate(m.getModifiers())) {
                got.add(m.getReturnType() + " " + m.getName() + listed(m.getParameterTypes()) + thrown(m));
                due.is(m.getName() + " is public alone", m.getModifiers(), Modifier.PUBLIC);
            }
        }
        for (Constructor<?> c : SeaLand.class.getDeclaredConstructors()) {
            got.add("SeaLand" + listed(c.getParameterTypes()));
        }
        for (Field f : SeaLand.class.getDeclaredFields()) {
            if (!Modifier.isPrivate(f.getModifiers())) {
                got.add(Modifier.toString(f.getModifiers() & ~Modifier.PUBLIC) + " int " + f.getName() + " = " + SeaLand.NONE);
            }
        }
        Set<String> more = new TreeSet<>(got);
        more.removeAll(want);
        want.removeAll(got);
        due.is("members that the document does not tell: " + more, more.size(), 0);
        due.is("members that are not there: " + want, want.size(), 0);
        due.is("the class", SeaLand.class.getModifiers(), Modifier.PUBLIC | Modifier.FINAL);
    }

    private static String listed(Class<?>[] types) {
        StringBuilder all = new StringBuilder("(");
        for (Class<?> type : types) {
            all.append(all.length() > 1 ? ", " : "").append(type.getSimpleName());
        }
        return all.append(")").toString();
    }

    private static String thrown(Method m) {
        String all = listed(m.getExceptionTypes());
        return all.equals("()") ? "" : " throws " + all.substring(1, all.length() - 1);
    }

    private static void classes() {
        Set<String> face = new HashSet<>();
        for (Method m : SeaLand.class.getMethods()) {
            face.add(m.getName());
        }
        Class<?>[] inside = SeaLand.class.getDeclaredClasses();
        due.is("some twelve classes", inside.length + 1 <= 12, true);
        for (Class<?> c : inside) {
            due.is(c + " is static", Modifier.isStatic(c.getModifiers()), true);
            due.is(c + " is not public", Modifier.isPublic(c.getModifiers()), false);
            sizes(c, face);
        }
        sizes(SeaLand.class, new HashSet<>());
        for (Method m : SeaLand.class.getDeclaredMethods()) {
            due.is("private " + m.getName(), Modifier.isPrivate(m.getModifiers()) && face.contains(m.getName()), false);
        }
    }

    private static void sizes(Class<?> c, Set<String> face) {
        long fields = Arrays.stream(c.getDeclaredFields()).filter(f -> !Modifier.isStatic(f.getModifiers())).count();
        due.is("fields of " + c, fields <= 20, true);
        for (Field f : c.getDeclaredFields()) {
            due.is("static " + f, Modifier.isStatic(f.getModifiers()) && !Modifier.isFinal(f.getModifiers()), false);
        }
        for (Method m : c.getDeclaredMethods()) {
            due.is("parameters of " + m, m.getParameterCount() <= 7, true);
            due.is("name of " + m, face.contains(m.getName()), false);
        }
    }

    private static void words() throws IOException {
        String text = Files.readString(MAIN);
        for (int i = 0; i < text.length(); i++) {
            due.is("sign at " + i, text.charAt(i) < 128, true);
        }
        String[] none = {"->", "::", "\\btry\\b", "\\bcatch\\b", "\\bfinally\\b", "\\bassert\\b", "synchronized",
            "instanceof", "\\bdouble\\b", "\\bfloat\\b", "Exact\\b", "\\bMath\\.(random|sqrt|pow)", "System\\.(?!arraycopy)",
            "Object\\b", "\\(\\s*[A-Z]\\w*\\s*\\)\\s*\\w"};
        for (String word : none) {
            Matcher m = Pattern.compile(word).matcher(text);
            due.is(word + " stands there", m.find(), false);
        }
        Matcher thrown = Pattern.compile("throw ([^;]*);").matcher(text);
        while (thrown.find()) {
            due.is(thrown.group(), thrown.group(1).matches("new (IllegalState|IllegalArgument|IndexOutOfBounds|"
                    + "UnsupportedOperation|NoSuchElement|ClassCast)(Exception)\\(\"[^\"]*\"\\)"), true);
        }
        Matcher imports = Pattern.compile("import ([^;]*);").matcher(text);
        while (imports.find()) {
            due.is(imports.group(), imports.group(1).matches("java\\.util\\.(Arrays|NoSuchElementException)"), true);
        }
    }
}
