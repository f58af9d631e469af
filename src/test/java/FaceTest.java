import java.lang.reflect.Constructor;
import java.lang.reflect.Field;
import java.lang.reflect.Method;
import java.lang.reflect.Modifier;
import java.nio.file.Files;
import java.nio.file.Path;
import java.util.ArrayList;
import java.util.Arrays;
import java.util.List;
import java.util.TreeSet;
import java.util.regex.Matcher;
import java.util.regex.Pattern;

/** The document's face, and those rules of LANGUAGE.md that can be seen from outside or in the text. */
public final class FaceTest {
    private static final String[] FACE = {
        "int feed(int,int,int,int,int) IndexOutOfBoundsException",
        "int end(int) IllegalArgumentException",
        "int machine()",
        "int program()",
        "int begin(int,int) IllegalArgumentException",
        "int count(int) IllegalArgumentException",
        "int cost(int,int) IllegalStateException IndexOutOfBoundsException",
        "int rule(int,int) IllegalStateException IndexOutOfBoundsException",
        "int state(int) IllegalStateException IndexOutOfBoundsException",
        "boolean even() IllegalStateException",
        "int run(boolean) IllegalStateException",
        "int variable(int) IllegalStateException IllegalArgumentException",
        "int cell(int) IllegalStateException IndexOutOfBoundsException",
        "int list() IllegalStateException",
        "long word(int) IndexOutOfBoundsException"};

    public static void main(String[] args) throws Exception {
        face();
        inside();
        text();
        Check.finish();
    }

    private static void face() {
        Class<TileChoice> c = TileChoice.class;
        Check.same("public and final", Modifier.PUBLIC | Modifier.FINAL, c.getModifiers());
        Constructor<?>[] constructors = c.getDeclaredConstructors();
        Check.same("constructors", 1, constructors.length);
        Check.same("public constructor", "public TileChoice()", constructors[0].toString());
        TreeSet<String> got = new TreeSet<>();
        for (Method m : c.getDeclaredMethods()) {
            if (Modifier.isPublic(m.getModifiers())) {
                got.add(heading(m));
            } else {
                Check.same("private: " + m.getName(), 1, Modifier.isPrivate(m.getModifiers()) ? 1 : 0);
            }
        }
        Check.same("face", new TreeSet<>(Arrays.asList(FACE)).toString(), got.toString());
        for (Field f : c.getDeclaredFields()) {
            Check.same("private: " + f.getName(), 1, Modifier.isPrivate(f.getModifiers()) ? 1 : 0);
        }
    }

    private static String heading(Method m) {
        StringBuilder text = new StringBuilder(m.getReturnType() + " " + m.getName() + "(");
        for (int i = 0; i < m.getParameterCount(); i++) {
            text.append(i == 0 ? "" : ",").append(m.getParameterTypes()[i]);
        }
        text.append(")");
        for (Class<?> e : m.getExceptionTypes()) {
            text.append(" ").append(e.getSimpleName());
        }
        return text.toString();
    }

    private static void inside() {
        List<String> names = new ArrayList<>();
        for (String heading : FACE) {
            names.add(heading.substring(heading.indexOf(' ') + 1, heading.indexOf('(')));
        }
        Class<?>[] classes = TileChoice.class.getDeclaredClasses();
        Check.same("at most twelve classes", 1, classes.length < 12 ? 1 : 0);
        for (Class<?> c : classes) {
            int open = c.getModifiers() & (Modifier.PUBLIC | Modifier.PROTECTED);
            Check.same("not public: " + c, 0, open);
            Check.same("static: " + c, 1, Modifier.isStatic(c.getModifiers()) ? 1 : 0);
            for (Method m : c.getDeclaredMethods()) {
                Check.same("bears the name of a public one: " + m, 0, names.contains(m.getName()) ? 1 : 0);
                Check.same("at most seven parameters: " + m, 1, m.getParameterCount() <= 7 ? 1 : 0);
            }
            int fields = 0;
            for (Field f : c.getDeclaredFields()) {
                fields += Modifier.isStatic(f.getModifiers()) ? 0 : 1;
            }
            Check.same("at most twenty fields: " + c, 1, fields <= 20 ? 1 : 0);
        }
    }

    private static void text() throws Exception {
        String text = Files.readString(Path.of("src/main/java/TileChoice.java"));
        String[] banned = {"->", "::", "\\bfinally\\b", "\\bcatch\\b", "\\btry\\b", "\\bsynchronized\\b", "\\bassert\\b",
            "^package\\b", "Exact\\b", "\\bSystem\\.(?!arraycopy)", "\\bRandom\\b", "\\bThread\\b", "static \\{",
            "\\binstanceof\\b", "\\bObject\\b", "[^\\x00-\\x7f]"};
        for (String b : banned) {
            Matcher m = Pattern.compile(b, Pattern.MULTILINE).matcher(text);
            Check.same("in the text: " + b, 0, m.find() ? 1 : 0);
        }
        Matcher imports = Pattern.compile("^import (.*);", Pattern.MULTILINE).matcher(text);
        while (imports.find()) {
            Check.same("import", "java.util.Arrays", imports.group(1));
        }
        Matcher thrown = Pattern.compile("\\bthrow new (\\w+)\\((\"[^\"]*\")?\\);").matcher(text);
        int count = 0;
        while (thrown.find()) {
            count++;
            Check.same("throws " + thrown.group(1), 1,
                    thrown.group(1).matches("Illegal(State|Argument)Exception|IndexOutOfBoundsException") ? 1 : 0);
        }
        Check.same("every throw is written so", count, text.split("\\bthrow\\b", -1).length - 1);
    }
}
