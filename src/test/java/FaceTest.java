import java.lang.reflect.Constructor;
import java.lang.reflect.Field;
import java.lang.reflect.Method;
import java.lang.reflect.Modifier;
import java.util.Arrays;
import java.util.Set;
import java.util.TreeSet;

/** The public face is the document's, and nothing else is to be seen from outside. */
public final class FaceTest {
    private static final String[] FACE = {
        "int table(int) IllegalArgumentException IllegalStateException",
        "void index(int,int) IllegalArgumentException IllegalStateException",
        "void stage(int,int) IllegalArgumentException",
        "int insert(int) IllegalArgumentException IllegalStateException",
        "int delete(int,int,int) IllegalArgumentException IllegalStateException",
        "int change(int,int,int,int) IllegalArgumentException IllegalStateException",
        "void begin() IllegalStateException",
        "int commit() IllegalStateException",
        "int rollback() IllegalStateException",
        "int cell(int,int,int) IllegalArgumentException",
        "int feed(int) IllegalStateException",
        "int prepare() IllegalArgumentException",
        "int place()",
        "int step(int) IllegalArgumentException IllegalStateException",
        "int column(int)",
        "int cost()",
    };

    public static void main(String[] args) {
        Class<?> face = RelationDesk.class;
        Expect.same("public and final", Modifier.PUBLIC | Modifier.FINAL, face.getModifiers());
        constructors(face);
        methods(face);
        fields(face);
        Expect.finish("FaceTest");
    }

    private static void constructors(Class<?> face) {
        Constructor<?>[] all = face.getDeclaredConstructors();
        Expect.same("constructors", 1, all.length);
        Expect.same("constructor is public", Modifier.PUBLIC, all[0].getModifiers());
        Expect.same("constructor's parameters", 0, all[0].getParameterCount());
    }

    private static void methods(Class<?> face) {
        Set<String> due = new TreeSet<>(Arrays.asList(FACE));
        Set<String> got = new TreeSet<>();
        for (Method method : face.getDeclaredMethods()) {
            if (!Modifier.isPrivate(method.getModifiers())) {
                got.add(told(method));
            }
        }
        Expect.same("methods " + got + " for " + due, 1, due.equals(got) ? 1 : 0);
    }

    private static String told(Method method) {
        StringBuilder text = new StringBuilder(method.getReturnType().getSimpleName());
        text.append(' ').append(method.getName()).append('(');
        for (int i = 0; i < method.getParameterCount(); i++) {
            text.append(i == 0 ? "" : ",").append(method.getParameterTypes()[i].getSimpleName());
        }
        text.append(')');
        for (Class<?> thrown : method.getExceptionTypes()) {
            text.append(' ').append(thrown.getSimpleName());
        }
        return text.toString();
    }

    private static void fields(Class<?> face) {
        for (Field field : face.getDeclaredFields()) {
            int modifiers = field.getModifiers();
            Expect.same(field.getName() + " is private", 1, Modifier.isPrivate(modifiers) ? 1 : 0);
            boolean shared = Modifier.isStatic(modifiers) && !Modifier.isFinal(modifiers);
            Expect.same(field.getName() + " is no static state", 0, shared ? 1 : 0);
        }
    }
}
