import java.lang.reflect.Constructor;
import java.lang.reflect.Field;
import java.lang.reflect.Method;
import java.lang.reflect.Modifier;
import java.util.HashSet;
import java.util.Set;
import java.util.TreeSet;

/** The public face of the document, and rule 1 of the language: nothing else can be seen. */
public final class FaceTest {
    private static final Checks CHECKS = new Checks();

    private static final String[] METHODS = {
        "int work(int,int)", "int wants(int,int,boolean,int)", "int sends(int,int,int)", "int loses(int)",
        "int turn(int)", "int run()", "int ring()", "int interrupt(int)", "int again(int)", "int close()",
        "int state(int,int)", "int has(int)", "int line(int,int)", "int value(int)", "int log(int)",
        "int mail(int,int)"
    };

    private static String shape(Method method) {
        StringBuilder text = new StringBuilder(method.getReturnType().getName());
        text.append(' ').append(method.getName()).append('(');
        Class<?>[] types = method.getParameterTypes();
        for (int i = 0; i < types.length; i++) {
            text.append(i == 0 ? "" : ",").append(types[i].getName());
        }
        return text.append(')').toString();
    }

    private static void constants() {
        CHECKS.due("NONE", -1, LendThreads.NONE);
        CHECKS.due("RANGE", -2, LendThreads.RANGE);
        CHECKS.due("STATE", -3, LendThreads.STATE);
        CHECKS.due("FULL", -4, LendThreads.FULL);
        Set<String> seen = new TreeSet<>();
        for (Field field : LendThreads.class.getDeclaredFields()) {
            int modifiers = field.getModifiers();
            if (!Modifier.isPrivate(modifiers)) {
                seen.add(field.getName());
                CHECKS.yes(field + " is public static final int", Modifier.isPublic(modifiers)
                        && Modifier.isStatic(modifiers) && Modifier.isFinal(modifiers) && field.getType() == int.class);
            } else if (Modifier.isStatic(modifiers)) {
                CHECKS.yes(field + " is final", Modifier.isFinal(modifiers));
            }
        }
        CHECKS.yes("the constants are " + seen, seen.equals(Set.of("NONE", "RANGE", "STATE", "FULL")));
    }

    private static void methods() {
        Set<String> seen = new HashSet<>();
        Set<String> names = new HashSet<>();
        for (Method method : LendThreads.class.getDeclaredMethods()) {
            if (!Modifier.isPrivate(method.getModifiers())) {
                CHECKS.yes(method + " is public and no static one", Modifier.isPublic(method.getModifiers())
                        && !Modifier.isStatic(method.getModifiers()));
                seen.add(shape(method));
                names.add(method.getName());
            }
        }
        CHECKS.yes("the methods are " + seen, seen.equals(Set.of(METHODS)));
        privateNames(LendThreads.class, names);
        for (Class<?> inside : LendThreads.class.getDeclaredClasses()) {
            CHECKS.yes(inside + " is static and not public", Modifier.isStatic(inside.getModifiers())
                    && !Modifier.isPublic(inside.getModifiers()) && !Modifier.isProtected(inside.getModifiers()));
            privateNames(inside, names);
        }
    }

    private static void privateNames(Class<?> where, Set<String> names) {
        for (Method method : where.getDeclaredMethods()) {
            CHECKS.yes(method + " bears no public name", Modifier.isPublic(method.getModifiers())
                    || !names.contains(method.getName()));
        }
    }

    private static void constructors() throws NoSuchMethodException {
        Constructor<?>[] all = LendThreads.class.getDeclaredConstructors();
        CHECKS.due("constructors", 1, all.length);
        CHECKS.yes("public, without arguments", Modifier.isPublic(all[0].getModifiers())
                && all[0].getParameterCount() == 0);
        CHECKS.yes("the class is public and final", Modifier.isPublic(LendThreads.class.getModifiers())
                && Modifier.isFinal(LendThreads.class.getModifiers()));
        Class<?>[] thrown = LendThreads.class.getMethod("value", int.class).getExceptionTypes();
        CHECKS.yes("value tells what it throws", thrown.length == 1 && thrown[0] == IndexOutOfBoundsException.class);
    }

    public static void main(String[] args) throws NoSuchMethodException {
        constants();
        methods();
        constructors();
        CHECKS.end();
    }
}
