import java.lang.reflect.Constructor;
import java.lang.reflect.Field;
import java.lang.reflect.Method;
import java.lang.reflect.Modifier;
import java.util.Set;
import java.util.TreeSet;

/** The public face has what the document names, and no member more that others could see. */
public final class FaceTest {
    private static final Set<String> DUE = Set.of(
            "int job()", "int add(int,byte)", "int run()", "int ended(int,int)", "int page(int,int)",
            "int device(int,int)", "int define(int,int,int)", "int resource(int,int)",
            "int file(int,int)", "int write(int,byte)", "int read(int)", "int filter(int,int)",
            "int close(int)", "boolean startFails(boolean)", "int output(int)", "int lies(int,int)");

    public static void main(String[] args) {
        Set<String> seen = new TreeSet<>();
        for (Method m : MachineLoop.class.getDeclaredMethods()) {
            if (!m.isSynthetic() && !Modifier.isPrivate(m.getModifiers())) {
                Check.same("public " + m, Modifier.isPublic(m.getModifiers()), true);
                Check.same("not static " + m, Modifier.isStatic(m.getModifiers()), false);
                seen.add(told(m));
            }
        }
        Check.same("the methods " + seen + " are those of the document", seen.equals(DUE), true);
        for (Field f : MachineLoop.class.getDeclaredFields()) {
            Check.same("private " + f, Modifier.isPrivate(f.getModifiers()), true);
        }
        Constructor<?>[] made = MachineLoop.class.getDeclaredConstructors();
        Check.same("constructors", made.length, 1);
        Check.same("it takes a long", made[0].getParameterTypes()[0] == long.class, true);
        Check.same("it is public", Modifier.isPublic(made[0].getModifiers()), true);
        int kind = MachineLoop.class.getModifiers();
        Check.same("public final class", Modifier.isPublic(kind) && Modifier.isFinal(kind), true);
        Check.end();
    }

    private static String told(Method m) {
        StringBuilder parameters = new StringBuilder();
        for (Class<?> p : m.getParameterTypes()) {
            parameters.append(parameters.length() == 0 ? "" : ",").append(p.getName());
        }
        return m.getReturnType().getName() + " " + m.getName() + "(" + parameters + ")";
    }
}
