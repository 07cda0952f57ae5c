import java.lang.reflect.Constructor;
import java.lang.reflect.Field;
import java.lang.reflect.Method;
import java.lang.reflect.Modifier;
import java.util.TreeSet;

/** The class shows what the document's face has, and nothing else. */
public final class FaceTest {
    public static void main(String[] args) {
        Class<?> c = MachineCore.class;
        Checks.due("public and final", c.getModifiers() & (Modifier.PUBLIC | Modifier.FINAL),
                Modifier.PUBLIC | Modifier.FINAL);
        TreeSet<String> methods = new TreeSet<>();
        TreeSet<String> hidden = new TreeSet<>();
        for (Method m : c.getDeclaredMethods()) {
            if (Modifier.isPrivate(m.getModifiers())) {
                hidden.add(m.getName());
                continue;
            }
            Checks.due(m + " is public", Modifier.isPublic(m.getModifiers()) ? 1 : 0, 1);
            StringBuilder b = new StringBuilder(m.getReturnType() + " " + m.getName());
            for (Class<?> p : m.getParameterTypes()) {
                b.append(' ').append(p);
            }
            methods.add(b.toString());
        }
        String want = "[int byteAt int, int count int, int get int, int port int, int run int, "
                + "void line int, void set int int, void setPort int int, void write int int]";
        Checks.due("the methods " + methods, methods.toString().equals(want) ? 1 : 0, 1);
        for (Method m : c.getMethods()) {
            Checks.due(m + " is no private one's name", hidden.contains(m.getName()) ? 1 : 0, 0);
        }
        TreeSet<String> fields = new TreeSet<>();
        for (Field f : c.getDeclaredFields()) {
            if (!Modifier.isPrivate(f.getModifiers())) {
                fields.add(Modifier.toString(f.getModifiers()) + " " + f.getType() + " " + f.getName());
            }
        }
        String constants = "[public static final int DONE, public static final int HALTED, "
                + "public static final int NONE, public static final int NO_CODE]";
        Checks.due("the fields " + fields, fields.toString().equals(constants) ? 1 : 0, 1);
        Constructor<?>[] made = c.getDeclaredConstructors();
        Checks.due("constructors", made.length, 1);
        Checks.due("its parameters", made[0].getParameterCount(), 0);
        for (Class<?> inside : c.getDeclaredClasses()) {
            int how = inside.getModifiers();
            Checks.due(inside + " is static", Modifier.isStatic(how) ? 1 : 0, 1);
            Checks.due(inside + " is shown", how & (Modifier.PUBLIC | Modifier.PROTECTED), 0);
        }
        Checks.due("NONE", MachineCore.NONE, -1);
        Checks.due("DONE", MachineCore.DONE, 0);
        Checks.due("HALTED", MachineCore.HALTED, 1);
        Checks.due("NO_CODE", MachineCore.NO_CODE, 2);
        Checks.finish();
    }
}
