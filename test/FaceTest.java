import java.lang.reflect.Constructor;
import java.lang.reflect.Field;
import java.lang.reflect.Method;
import java.lang.reflect.Modifier;
import java.util.TreeSet;

/** The class shows what the document's face has, and nothing else. */
public final class FaceTest {
    public static void main(String[] args) {
        Class<?> c = MachineCore.class;
        Checks.due("public and final", c.getModifiers() & (Modifier.PUBLIC | Modifier.FINAL),
                Modifier.PUBLIC | Modifier.FINAL);
        TreeSet<String> methods = new TreeSet<>();
        TreeSet<String> hidden = new TreeSet<>();
        for (Method m : c.getDeclaredMethods()) {
            if (Modifier.isPrivate(m.getModifiers())) {
                hidden.add(m.getName());
                continue;
            }
            Checks.due(m + " is public", Modifier.isPublic(m.getModifiers()) ? 1 : 0, 1);
            StringBuilder b = new StringBuilder(m.getReturnType() + " " + m.getName());
            for (Class<?> p : m.getParameterTypes()) {
                b.append(' ').append(p);
            }
            for (Class<?> e : m.getExceptionTypes()) {
                b.append(" throws ").append(e.getName());
            }
            methods.add(b.toString());
        }
        String bounds = " throws java.lang.IndexOutOfBoundsException";
        String argument = " throws java.lang.IllegalArgumentException";
        String want = "[int byteAt int" + bounds + ", int count int" + argument + ", int get int" + bounds
                + ", int port int, int run int" + argument + ", void line int" + argument + ", void set int int" + bounds
                + ", void setPort int int, void write int int" + bounds + "]";
        Checks.due("the methods " + methods, methods.toString().equals(want) ? 1 : 0, 1);
        for (Method m : c.getMethods()) {
            Checks.due(m + " is no private one's name", hidden.contains(m.getName()) ? 1 : 0, 0);
        }
        TreeSet<String> fields = new TreeSet<>();
        for (Field f : c.getDeclaredFields()) {
            if (!Modifier.isPrivate(f.getModifiers())) {
                fields.add(Modifier.toString(f.getModifiers()) + " " + f.getType() + " " + f.getName());
            }
        }
        String constants = "[public static final int DONE, public static final int HALTED, "
                + "public static final int NONE, public static final int NO_CODE]";
        Checks.due("the fields " + fields, fields.toString().equals(constants) ? 1 : 0, 1);
        Constructor<?>[] made = c.getDeclaredConstructors();
        Checks.due("constructors", made.length, 1);
        Checks.due("its parameters", made[0].getParameterCount(), 0);
        Checks.due("its exceptions", made[0].getExceptionTypes().length, 0);
        Checks.due("it is public", Modifier.isPublic(made[0].getModifiers()) ? 1 : 0, 1);
        Checks.due("no class above it", c.getSuperclass() == Object.class ? 1 : 0, 1);
        Checks.due("no package", c.getPackageName().length(), 0);
        for (Class<?> inside : c.getDeclaredClasses()) {
            int how = inside.getModifiers();
            Checks.due(inside + " is static", Modifier.isStatic(how) ? 1 : 0, 1);
            Checks.due(inside + " is shown", how & (Modifier.PUBLIC | Modifier.PROTECTED), 0);
        }
        Checks.due("NONE", MachineCore.NONE, -1);
        Checks.due("DONE", MachineCore.DONE, 0);
        Checks.due("HALTED", MachineCore.HALTED, 1);
        Checks.due("NO_CODE", MachineCore.NO_CODE, 2);
        Checks.finish();
    }
}
