import java.lang.reflect.Constructor;
import java.lang.reflect.Field;
import java.lang.reflect.Method;
import java.lang.reflect.Modifier;
import java.util.Set;
import java.util.TreeSet;

/** The public face has what the document names, and no member more that others could see. */
public final class FaceTest {
    private static final Set<String> DUE = Set.of(
            "int job()", "int add(int,byte)", "int run()", "int ended(int,int)", "int page(int,int)",
            "int device(int,int)", "int define(int,int,int)", "int resource(int,int)",
            "int file(int,int)", "int write(int,byte)", "int read(int)", "int filter(int,int)",
            "int close(int)", "boolean startFails(boolean)", "int output(int)", "int lies(int,int)");

    public static void main(String[] args) {
        Set<String> seen = new TreeSet<>();
        for (Method m : MachineLoop.class.getDeclaredMethods()) {
            if (!m.isSynthetic() && !Modifier.isPrivate(m.getModifiers())) {
                Check.same("public " + m, Modifier.isPublic(m.getModifiers()), true);
                Check.same("not static " + m, Modifier.isStatic(m.getModifiers()), false);
                seen.add(told(m));
            }
        }
        Check.same("the methods " + seen + " are those of the document", seen.equals(DUE), true);
        for (Field f : MachineLoop.class.getDeclaredFields()) {
            Check.same("private " + f, Modifier.isPrivate(f.getModifiers()), true);
        }
        Constructor<?>[] made = MachineLoop.class.getDeclaredConstructors();
        Check.same("constructors", made.length, 1);
        Check.same("it takes a long", made[0].getParameterTypes()[0] == long.class, true);
        Check.same("it is public", Modifier.isPublic(made[0].getModifiers()), true);
        int kind = MachineLoop.class.getModifiers();
        Check.same("public final class", Modifier.isPublic(kind) && Modifier.isFinal(kind), true);
        classesInside();
        Check.end();
    }

    /** LANGUAGE.md, rules 1, 2 and 11. */
    private static void classesInside() {
        Class<?>[] inside = MachineLoop.class.getDeclaredClasses();
        Check.same("at most twelve classes", inside.length < 12, true);
        Set<String> names = new TreeSet<>();
        for (Method m : MachineLoop.class.getDeclaredMethods()) {
            if (Modifier.isPublic(m.getModifiers())) {
                names.add(m.getName());
            }
        }
        for (Class<?> c : inside) {
            Check.same("static " + c, Modifier.isStatic(c.getModifiers()), true);
            Check.same("private or package-visible " + c, (c.getModifiers() & (Modifier.PUBLIC | Modifier.PROTECTED)) == 0, true);
            Check.same("at most twenty fields in " + c, c.getDeclaredFields().length <= 20, true);
            for (Method m : c.getDeclaredMethods()) {
                Check.same("a name of its own: " + m, names.contains(m.getName()), false);
                Check.same("at most seven parameters: " + m, m.getParameterCount() <= 7, true);
            }
        }
        for (Method m : MachineLoop.class.getDeclaredMethods()) {
            boolean isPublic = Modifier.isPublic(m.getModifiers());
            Check.same("a name of its own: " + m, isPublic || !names.contains(m.getName()), true);
        }
    }

    private static String told(Method m) {
        StringBuilder parameters = new StringBuilder();
        for (Class<?> p : m.getParameterTypes()) {
            parameters.append(parameters.length() == 0 ? "" : ",").append(p.getName());
        }
        return m.getReturnType().getName() + " " + m.getName() + "(" + parameters + ")";
    }
}
