import java.lang.reflect.Constructor;
import java.lang.reflect.Field;
import java.lang.reflect.Method;
import java.lang.reflect.Modifier;
import java.nio.file.Files;
import java.nio.file.Path;
import java.util.ArrayList;
import java.util.Arrays;
import java.util.Collections;
import java.util.List;
import java.util.regex.Pattern;

/** The public face, and those rules of LANGUAGE.md that can be seen in the class or its source. */
public final class FormTest {
    private static final Path SOURCE = Path.of("src/main/java/MarkPages.java");
    private static final List<String> FACE = List.of("alike(int,int)int", "end(int)boolean",
        "fault(int)int", "feed(int,int,int,int,int)int", "got(int,int,int)int", "group(int)int",
        "line(int,int,int)int", "mark(int,int,int)boolean", "name(int,int)boolean", "of(int,int)int",
        "out(int)int", "page(int)int", "phrase(int,int)boolean", "question(int,int)int", "rules()int",
        "sheet(int,int)int", "write(int,int)int");
    private static final String[] BARRED = {"\\b(throw|throws|try|catch|synchronized|assert|package)\\b",
        "->", "::", "Exact\\b", "\\b(hashCode|toString|getClass|System\\.(?!arraycopy))\\b",
        "\\bimport (?!java\\.util\\.(Arrays|ArrayList|List|Iterator);)", "\\bnull\\b", "static \\{"};

    public static void main(String[] args) throws Exception {
        face();
        inside();
        String code = Files.readString(SOURCE).replaceAll("(?s)/\\*.*?\\*/", "").replaceAll("//.*", "");
        for (String barred : BARRED) {
            Desk.due("source has " + barred, Pattern.compile(barred).matcher(code).find(), false);
        }
        Desk.finish();
    }

    /** Rules 1, 2 and 11, of the classes inside. */
    private static void inside() {
        Class<?>[] classes = MarkPages.class.getDeclaredClasses();
        Desk.due("some twelve classes", classes.length < 13, true);
        for (Class<?> c : classes) {
            Desk.due("static: " + c, Modifier.isStatic(c.getModifiers()), true);
            boolean hidden = (c.getModifiers() & (Modifier.PUBLIC | Modifier.PROTECTED)) == 0;
            Desk.due("private or package-visible: " + c, hidden, true);
            Desk.due("some twenty fields: " + c, ownFields(c) <= 20, true);
            for (Field f : c.getDeclaredFields()) {
                boolean fixed = Modifier.isFinal(f.getModifiers()) || !Modifier.isStatic(f.getModifiers());
                Desk.due("static fields are final: " + f, fixed, true);
            }
            for (Method m : c.getDeclaredMethods()) {
                boolean twice = FACE.stream().anyMatch(f -> f.startsWith(m.getName() + "("));
                Desk.due("named as a public one: " + m, twice, false);
                Desk.due("seven parameters: " + m, m.getParameterCount() <= 7, true);
            }
        }
    }

    private static long ownFields(Class<?> c) {
        return Arrays.stream(c.getDeclaredFields()).filter(f -> !Modifier.isStatic(f.getModifiers())).count();
    }

    private static void face() {
        Class<?> c = MarkPages.class;
        Desk.due("public and final", c.getModifiers(), Modifier.PUBLIC | Modifier.FINAL);
        List<String> methods = new ArrayList<>();
        List<String> privateNames = new ArrayList<>();
        for (Method m : c.getDeclaredMethods()) {
            if (Modifier.isPrivate(m.getModifiers())) {
                privateNames.add(m.getName());
            } else {
                methods.add(Modifier.isPublic(m.getModifiers()) ? told(m) : "not private: " + told(m));
            }
        }
        Collections.sort(methods);
        Desk.due("methods", methods.toString(), FACE.toString());
        for (String name : privateNames) {
            boolean twice = FACE.stream().anyMatch(f -> f.startsWith(name + "("));
            Desk.due("a private method named as a public one: " + name, twice, false);
        }
        Constructor<?>[] constructors = c.getDeclaredConstructors();
        Desk.due("constructors", constructors.length, 1);
        Desk.due("a public one", Modifier.isPublic(constructors[0].getModifiers()), true);
        for (Field f : c.getDeclaredFields()) {
            boolean constant = f.getName().equals("NONE");
            Desk.due("private: " + f.getName(), Modifier.isPrivate(f.getModifiers()), !constant);
            boolean fixed = Modifier.isFinal(f.getModifiers()) || !Modifier.isStatic(f.getModifiers());
            Desk.due("static fields are final: " + f.getName(), fixed, true);
        }
        Desk.due("some twenty fields", ownFields(c) <= 20, true);
    }

    private static String told(Method m) {
        StringBuilder text = new StringBuilder(m.getName()).append('(');
        for (Class<?> type : m.getParameterTypes()) {
            text.append(text.charAt(text.length() - 1) == '(' ? "" : ",").append(type.getName());
        }
        return text.append(')').append(m.getReturnType().getName()).toString();
    }
}
