import java.lang.reflect.Constructor;
import java.lang.reflect.Field;
import java.lang.reflect.Method;
import java.lang.reflect.Modifier;
import java.util.Set;
import java.util.TreeSet;

/** The public face: exactly what the document lists, nothing else that can be seen from outside. */
final class FaceTest {
    private static final Due DUE = new Due("FaceTest");
    private static final Set<String> METHODS = Set.of(
        "void renew()", "int input(int,int)", "int deliver(int)", "boolean lose(int)",
        "int resend(int)", "int flush(int)", "int checkpoint(int)", "int crash(int)",
        "int restart(int)", "int learn(int)", "int release(int)", "int released(int,int)",
        "int outputs(int)", "int state(int)", "int length(int)", "int known(int)",
        "int status(int)", "int orphans()", "int replayed(int)");

    public static void main(String[] args) {
        DUE.is("the class is public", Modifier.isPublic(OrphanRuntime.class.getModifiers()), true);
        DUE.is("the class is final", Modifier.isFinal(OrphanRuntime.class.getModifiers()), true);
        constants();
        methods();
        constructors();
        fieldsAreHidden();
        DUE.end();
    }

    private static void constants() {
        DUE.is("REFUSED", OrphanRuntime.REFUSED, -1);
        DUE.is("HELD", OrphanRuntime.HELD, -2);
        DUE.is("ORPHAN", OrphanRuntime.ORPHAN, -3);
        DUE.is("WAITING", OrphanRuntime.WAITING, 0);
        DUE.is("TAKEN", OrphanRuntime.TAKEN, 1);
        DUE.is("MISSING", OrphanRuntime.MISSING, 2);
        DUE.is("DISCARDED", OrphanRuntime.DISCARDED, 3);
    }

    private static void methods() {
        Set<String> found = new TreeSet<>();
        Set<String> names = new TreeSet<>();
        for (Method method : OrphanRuntime.class.getDeclaredMethods()) {
            if (Modifier.isPublic(method.getModifiers())) {
                found.add(signature(method));
                names.add(method.getName());
            }
        }
        DUE.is("public methods " + found, found.equals(METHODS), true);
        for (Method method : OrphanRuntime.class.getDeclaredMethods()) {
            int modifiers = method.getModifiers();
            if (!Modifier.isPublic(modifiers)) {
                DUE.is(method.getName() + " is private", Modifier.isPrivate(modifiers), true);
                DUE.is(method.getName() + " bears a public name", names.contains(method.getName()), false);
            }
        }
    }

    private static String signature(Method method) {
        StringBuilder text = new StringBuilder();
        text.append(method.getReturnType().getName()).append(' ').append(method.getName()).append('(');
        for (int k = 0; k < method.getParameterCount(); k++) {
            text.append(k == 0 ? "" : ",").append(method.getParameterTypes()[k].getName());
        }
        return text.append(')').toString();
    }

    private static void constructors() {
        Constructor<?>[] all = OrphanRuntime.class.getDeclaredConstructors();
        DUE.is("number of constructors", all.length, 1);
        DUE.is("parameters of the constructor", all[0].getParameterCount(), 0);
        DUE.is("the constructor is public", Modifier.isPublic(all[0].getModifiers()), true);
    }

    private static void fieldsAreHidden() {
        int seen = 0;
        for (Field field : OrphanRuntime.class.getDeclaredFields()) {
            int modifiers = field.getModifiers();
            if (Modifier.isPublic(modifiers)) {
                seen++;
                DUE.is(field.getName() + " is static and final",
                    Modifier.isStatic(modifiers) && Modifier.isFinal(modifiers), true);
            } else {
                DUE.is(field.getName() + " is private", Modifier.isPrivate(modifiers), true);
            }
        }
        DUE.is("number of public constants", seen, 7);
    }
}
