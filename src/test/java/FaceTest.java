import java.io.IOException;
import java.lang.reflect.Constructor;
import java.lang.reflect.Field;
import java.lang.reflect.Method;
import java.lang.reflect.Modifier;
import java.nio.file.Files;
import java.nio.file.Path;
import java.util.Arrays;
import java.util.Set;
import java.util.TreeSet;
import java.util.regex.Matcher;
import java.util.regex.Pattern;
import java.util.stream.Collectors;

/** The public face as the document tells it, and those rules of LANGUAGE.md that can be seen from outside. */
public final class FaceTest {
    private static final String FACE = "about(int)int, again(int)int, chance(int,boolean)int, fault()int, "
            + "funeral(int)int, keep(int)int, land()int, net(int)int, nobody(int)int, onions(int,int)int, "
            + "owes(int,int)int, person(int,int)int, rests(int,int,int,int)int, ring()int, seed(long)long, "
            + "served(int)int, share(int,boolean)int, till(int,int)int, undo()int, week()int, weep(int,int)int, "
            + "weighed(int,int,int)int, whose(int)int, wipe()int, write(int)int, years(int)int";
    private static final String CONSTANTS = "BAD=-2, FULL=-4, LATE=-3, NONE=-9, UNKNOWN=-1";
    private static final String[] BANNED = {"\\bthrow\\b", "\\btry\\b", "\\bcatch\\b", "\\bsynchronized\\b",
        "\\bassert\\b", "\\bimport\\b", "\\bpackage\\b", "\\bprotected\\b", "\\bstatic\\s*\\{", "->", "::", "\"",
        "\\bwhile\\s*\\(\\s*true", "for\\s*\\(\\s*;\\s*;", "\\b(equals|hashCode|toString)\\s*\\(", "Exact\\b",
        "\\bdouble\\b", "\\bfloat\\b", "\\bObject\\b"};

    public static void main(String[] args) throws IOException, IllegalAccessException {
        methods();
        constants();
        classes();
        source(Path.of(args.length > 0 ? args[0] : "src/main/java/BorrowedTears.java"));
        Due.end("FaceTest");
    }

    private static String signature(Method method) {
        String takes = Arrays.stream(method.getParameterTypes()).map(Class::getName).collect(Collectors.joining(","));
        return method.getName() + "(" + takes + ")" + method.getReturnType().getName();
    }

    private static void methods() {
        Set<String> face = new TreeSet<>();
        Set<String> names = new TreeSet<>();
        for (Method method : BorrowedTears.class.getDeclaredMethods()) {
            if (Modifier.isPublic(method.getModifiers())) {
                face.add(signature(method));
                names.add(method.getName());
                Due.due("no static method: " + method, method.getModifiers() & Modifier.STATIC, 0);
            }
        }
        Due.same("the face", String.join(", ", face), FACE);
        for (Method method : BorrowedTears.class.getDeclaredMethods()) {
            if (!Modifier.isPublic(method.getModifiers()) && !method.isSynthetic()) {
                Due.same("private: " + method, Modifier.isPrivate(method.getModifiers()) + "", "true");
                Due.same("a name of its own: " + method, names.contains(method.getName()) + "", "false");
            }
        }
        for (Constructor<?> made : BorrowedTears.class.getDeclaredConstructors()) {
            Due.due("the constructor takes", made.getParameterCount(), 0);
            Due.same("the constructor is public", Modifier.isPublic(made.getModifiers()) + "", "true");
        }
        Due.same("final", Modifier.isFinal(BorrowedTears.class.getModifiers()) + "", "true");
    }

    private static void constants() throws IllegalAccessException {
        Set<String> those = new TreeSet<>();
        for (Field field : BorrowedTears.class.getDeclaredFields()) {
            int modifiers = field.getModifiers();
            if (Modifier.isPublic(modifiers)) {
                those.add(field.getName() + "=" + field.getInt(null));
            } else {
                Due.same("private: " + field, Modifier.isPrivate(modifiers) + "", "true");
            }
            Due.same("static is final: " + field, !Modifier.isStatic(modifiers) || Modifier.isFinal(modifiers)
                    ? "so" : "not", "so");
        }
        Due.same("constants", String.join(", ", those), CONSTANTS);
    }

    private static void classes() {
        Class<?>[] inside = BorrowedTears.class.getDeclaredClasses();
        Due.same("some twelve classes", inside.length <= 12 ? "so" : "not", "so");
        for (Class<?> one : inside) {
            Due.same("static: " + one, Modifier.isStatic(one.getModifiers()) + "", "true");
            long fields = Arrays.stream(one.getDeclaredFields()).filter(f -> !Modifier.isStatic(f.getModifiers()))
                    .count();
            Due.same("some twenty fields: " + one, fields <= 20 ? "so" : "not", "so");
            for (Method method : one.getDeclaredMethods()) {
                Due.same("seven parameters: " + method, method.getParameterCount() <= 7 ? "so" : "not", "so");
            }
        }
    }

    private static void source(Path path) throws IOException {
        String code = Files.readString(path).replaceAll("(?s)/\\*.*?\\*/", "").replaceAll("//[^\n]*", "");
        for (String banned : BANNED) {
            Matcher found = Pattern.compile(banned).matcher(code);
            Due.same("in the source", found.find() ? found.group() : "", "");
        }
    }
}
