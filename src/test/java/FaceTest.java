import java.lang.reflect.Constructor;
import java.lang.reflect.Field;
import java.lang.reflect.Method;
import java.lang.reflect.Modifier;
import java.util.Set;
import java.util.TreeSet;

/** The public face: just what the document has, and no member beside it that is not private. */
public final class FaceTest {
    private static final String INDEX = "IndexOutOfBoundsException";
    private static final String ARGUMENT = "IllegalArgumentException";
    private static final String STATE = "IllegalStateException";

    public static void main(String[] args) {
        Set<String> want = new TreeSet<>();
        add(want, "append(int)", ARGUMENT, STATE);
        add(want, "clearText()");
        add(want, "errorPosition()");
        add(want, "load()", STATE);
        add(want, "about(int)", ARGUMENT);
        add(want, "block(int,int)", INDEX, ARGUMENT);
        add(want, "range(int,int)", INDEX, ARGUMENT);
        add(want, "pinned(int,int)", INDEX, ARGUMENT);
        add(want, "setting(int)", ARGUMENT);
        add(want, "write(int,int)", INDEX, ARGUMENT, STATE);
        add(want, "free(int,int)", INDEX, ARGUMENT, STATE);
        add(want, "pin(int,int,int)", INDEX, ARGUMENT, STATE);
        add(want, "unpin(int)", INDEX, STATE);
        add(want, "run(int)", ARGUMENT);
        add(want, "flush()");
        add(want, "set(int,int)", ARGUMENT);
        add(want, "undo()", STATE);
        add(want, "next(int)", ARGUMENT);
        add(want, "goneIn(int)", INDEX);
        add(want, "coming(int,int)", ARGUMENT);
        add(want, "bestGranule(int)", ARGUMENT);
        add(want, "ifWritten(int,int)", INDEX, ARGUMENT, STATE);
        add(want, "stuck()");
        add(want, "runScript(int,long)", ARGUMENT);
        add(want, "simulate(long,int)", ARGUMENT);
        add(want, "save(int)", INDEX);
        add(want, "restore(int)", INDEX, STATE);
        Check.same("the methods", methods().toString(), want.toString());
        Check.same("the fields", fields(), "public static final int NONE;");
        Check.same("the class", Modifier.toString(IdleDiscards.class.getModifiers()), "public final");
        constructors();
        privateNames();
        classesInside();
        Check.end();
    }

    private static void add(Set<String> all, String method, String... exceptions) {
        all.add("public int " + method + " throws " + new TreeSet<>(Set.of(exceptions)));
    }

    private static Set<String> methods() {
        Set<String> all = new TreeSet<>();
        for (Method m : IdleDiscards.class.getDeclaredMethods()) {
            if (Modifier.isPrivate(m.getModifiers()) || m.isSynthetic()) {
                continue;
            }
            StringBuilder types = new StringBuilder();
            for (Class<?> type : m.getParameterTypes()) {
                types.append(types.length() == 0 ? "" : ",").append(type.getName());
            }
            Set<String> exceptions = new TreeSet<>();
            for (Class<?> type : m.getExceptionTypes()) {
                exceptions.add(type.getSimpleName());
            }
            all.add(Modifier.toString(m.getModifiers()) + " " + m.getReturnType() + " " + m.getName() + "(" + types
                    + ") throws " + exceptions);
        }
        return all;
    }

    private static String fields() {
        StringBuilder all = new StringBuilder();
        for (Field f : IdleDiscards.class.getDeclaredFields()) {
            if (!Modifier.isPrivate(f.getModifiers()) && !f.isSynthetic()) {
                all.append(Modifier.toString(f.getModifiers())).append(' ').append(f.getType()).append(' ')
                        .append(f.getName()).append(';');
            }
            boolean isStatic = Modifier.isStatic(f.getModifiers());
            Check.due("static, but not final: " + f.getName(), isStatic && !Modifier.isFinal(f.getModifiers()) ? 1 : 0, 0);
        }
        return all.toString();
    }

    private static void constructors() {
        Constructor<?>[] all = IdleDiscards.class.getDeclaredConstructors();
        Check.due("the constructors", all.length, 1);
        Check.same("the constructor", all[0].toString(), "public IdleDiscards()");
    }

    private static void privateNames() {
        for (Method m : IdleDiscards.class.getDeclaredMethods()) {
            for (Method other : IdleDiscards.class.getDeclaredMethods()) {
                boolean twice = Modifier.isPrivate(m.getModifiers()) && Modifier.isPublic(other.getModifiers())
                        && m.getName().equals(other.getName());
                Check.due("a private method with the name of a public one: " + m.getName(), twice ? 1 : 0, 0);
            }
        }
    }

    private static void classesInside() {
        Class<?>[] inside = IdleDiscards.class.getDeclaredClasses();
        Check.due("more classes than twelve", inside.length > 12 ? 1 : 0, 0);
        for (Class<?> c : inside) {
            int m = c.getModifiers();
            boolean fine = Modifier.isStatic(m) && !Modifier.isPublic(m) && !Modifier.isProtected(m);
            Check.due("a class inside that is static, and private or package-visible: " + c, fine ? 1 : 0, 1);
        }
    }
}
