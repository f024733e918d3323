import java.lang.reflect.Constructor;
import java.lang.reflect.Field;
import java.lang.reflect.Method;
import java.lang.reflect.Modifier;
import java.util.List;
import java.util.Set;
import java.util.TreeSet;

/** The public face is the document's, and nothing else of the class can be seen. */
public final class FaceTest {
    private static final Set<String> FACE = Set.of(
        "boolean feed(long, int)", "boolean advance(int, int, int)", "void due()",
        "void move(int, int)", "boolean keep(int)", "boolean bring(int)", "int glyph(int, int)",
        "int page(int, int)", "int other(int)", "long data(int)", "boolean take()",
        "int place(int, boolean)", "int look(int)");

    public static void main(String[] args) throws Exception {
        Checks.yes("public final class", Modifier.isPublic(PageDesk.class.getModifiers())
            && Modifier.isFinal(PageDesk.class.getModifiers()));
        constants();
        constructors();
        methods();
        declaredExceptions();
        Checks.finish();
    }

    private static void constants() {
        Checks.same("NONE", PageDesk.NONE, -1);
        for (Field field : PageDesk.class.getDeclaredFields()) {
            boolean isNone = field.getName().equals("NONE");
            Checks.yes("visible or private: " + field, isNone
                ? Modifier.isPublic(field.getModifiers()) : Modifier.isPrivate(field.getModifiers()));
        }
    }

    private static void constructors() {
        Constructor<?>[] all = PageDesk.class.getDeclaredConstructors();
        Checks.same("constructors", all.length, 1);
        Checks.yes("public constructor", Modifier.isPublic(all[0].getModifiers()));
        Checks.same("its parameters", all[0].getParameterCount(), 0);
    }

    private static void methods() {
        Set<String> seen = new TreeSet<>();
        Set<String> hiddenNames = new TreeSet<>();
        for (Method method : PageDesk.class.getDeclaredMethods()) {
            if (Modifier.isPrivate(method.getModifiers())) {
                hiddenNames.add(method.getName());
            } else {
                seen.add(signature(method));
            }
        }
        Checks.yes("face " + seen, seen.equals(FACE));
        for (String signature : FACE) {
            String name = signature.substring(signature.indexOf(' ') + 1, signature.indexOf('('));
            Checks.no("private method named " + name, hiddenNames.contains(name));
        }
    }

    private static String signature(Method method) {
        StringBuilder text = new StringBuilder();
        text.append(method.getReturnType()).append(' ').append(method.getName()).append('(');
        String comma = "";
        for (Class<?> type : method.getParameterTypes()) {
            text.append(comma).append(type);
            comma = ", ";
        }
        return text.append(')').toString();
    }

    private static void declaredExceptions() throws NoSuchMethodException {
        List<Class<?>> outside = List.of(IndexOutOfBoundsException.class);
        declares(outside, "glyph", int.class, int.class);
        declares(outside, "page", int.class, int.class);
        declares(outside, "place", int.class, boolean.class);
        declares(List.of(IllegalStateException.class), "data", int.class);
        declares(List.of(IllegalStateException.class, IndexOutOfBoundsException.class), "other", int.class);
    }

    private static void declares(List<Class<?>> want, String name, Class<?>... types)
            throws NoSuchMethodException {
        List<Class<?>> got = List.of(PageDesk.class.getMethod(name, types).getExceptionTypes());
        Checks.yes(name + " declares " + got, got.equals(want));
    }
}
