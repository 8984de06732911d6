import java.io.IOException;
import java.lang.management.ManagementFactory;
import java.lang.reflect.Field;
import java.lang.reflect.Method;
import java.lang.reflect.Modifier;
import java.nio.file.Files;
import java.nio.file.Path;
import java.util.Set;
import java.util.TreeSet;
import java.util.regex.Matcher;
import java.util.regex.Pattern;

/**
 * What a machine can see of the rules of LANGUAGE.md: what the class is made of, that no call throws
 * or fails to end, that none but the constructor makes an object, and that the same calls answer the
 * same. The source is read from the directory that the test is run in.
 */
final class RulesTest {
    private static final Due DUE = new Due("RulesTest");
    private static final Path SOURCE = Path.of("src/main/java/OrphanRuntime.java");
    private static final Set<String> FORBIDDEN = Set.of(
        "package", "import", "throw", "throws", "try", "catch", "finally", "synchronized", "volatile",
        "assert", "protected", "native", "double", "float", "Object", "System", "Thread");
    /** Processes, messages and places of outputs, those that are none, and both ends of int. */
    private static final int[] ARGUMENTS = {
        0, 1, 2, 0, 1, 2, 0, 1, 2, 3, 4, 5, 7, 23, 24, 25, 39, 40, 41, 63, 64, 103, 104, 105,
        -1, -2, 31, 32, 255, 256, 512, Integer.MIN_VALUE, Integer.MIN_VALUE + 1, Integer.MAX_VALUE};
    private static final int CALLS_OF_ONE = 40000;

    private long seed;
    private final OrphanRuntime x = new OrphanRuntime();
    private final boolean renews;

    private RulesTest(long seed, boolean renews) {
        this.seed = seed * 0x9E3779B97F4A7C15L + 1;
        this.renews = renews;
    }

    public static void main(String[] args) throws IOException {
        nestedClasses();
        words();
        noCallThrows();
        onlyTheConstructorMakes();
        sameCallsSameAnswers();
        DUE.end();
    }

    /** Rules 1, 2 and 11. */
    private static void nestedClasses() {
        Set<String> face = new TreeSet<>();
        for (Method method : OrphanRuntime.class.getDeclaredMethods()) {
            if (Modifier.isPublic(method.getModifiers())) {
                face.add(method.getName());
            }
        }
        Class<?>[] nested = OrphanRuntime.class.getDeclaredClasses();
        DUE.is("at most twelve classes", nested.length < 12, true);
        small(OrphanRuntime.class);
        for (Class<?> one : nested) {
            int modifiers = one.getModifiers();
            DUE.is(one + " is static", Modifier.isStatic(modifiers), true);
            DUE.is(one + " is hidden", Modifier.isPublic(modifiers) || Modifier.isProtected(modifiers), false);
            for (Method method : one.getDeclaredMethods()) {
                DUE.is(method + " bears a public name", face.contains(method.getName()), false);
            }
            small(one);
        }
    }

    private static void small(Class<?> one) {
        int fields = 0;
        for (Field field : one.getDeclaredFields()) {
            boolean fixed = Modifier.isStatic(field.getModifiers());
            fields += fixed ? 0 : 1;
            DUE.is(field + " is a constant if static", !fixed || Modifier.isFinal(field.getModifiers()), true);
        }
        DUE.is("at most twenty fields in " + one, fields <= 20, true);
        for (Method method : one.getDeclaredMethods()) {
            DUE.is("at most seven parameters in " + method, method.getParameterCount() <= 7, true);
        }
    }

    /** Rules 2, 4, 5, 6 and 13: comments are taken out first, since they are free to use these words. */
    private static void words() throws IOException {
        String code = Files.readString(SOURCE).replaceAll("(?s)/\\*.*?\\*/", " ").replaceAll("//[^\n]*", " ");
        Matcher word = Pattern.compile("\\w+").matcher(code);
        while (word.find()) {
            DUE.is("the word " + word.group() + " stands in the class", FORBIDDEN.contains(word.group()), false);
        }
        DUE.is("a lambda or a method reference", code.contains("->") || code.contains("::"), false);
        DUE.is("a static block", Pattern.compile("static\\s*\\{").matcher(code).find(), false);
    }

    /** Rule 7: 'for any arguments in any state', so past the 512th call too. What is thrown ends the test. */
    private static void noCallThrows() {
        for (int run = 0; run < 40; run++) {
            RulesTest one = new RulesTest(run, run % 2 == 0);
            for (int call = 0; call < CALLS_OF_ONE; call++) {
                one.any();
            }
        }
    }

    /** Rule 12: the calls of an object use again what it was made with. */
    private static void onlyTheConstructorMakes() {
        com.sun.management.ThreadMXBean threads =
            (com.sun.management.ThreadMXBean) ManagementFactory.getThreadMXBean();
        RulesTest one = new RulesTest(77, true);
        one.any();
        long thread = Thread.currentThread().getId();
        long before = threads.getThreadAllocatedBytes(thread);
        for (int call = 0; call < CALLS_OF_ONE; call++) {
            one.any();
        }
        for (int call = 0; call < CALLS_OF_ONE / 10; call++) {
            one.x.renew();
        }
        long bytes = threads.getThreadAllocatedBytes(thread) - before;
        // The machine itself may make a little. Each of the 19 calls is made some 2000 times at least, and
        // an object has 16 bytes.
        DUE.is(bytes + " bytes made by calls, that is few", bytes < 2000 * 16, true);
    }

    /** Rule 13. */
    private static void sameCallsSameAnswers() {
        for (int run = 0; run < 40; run++) {
            RulesTest one = new RulesTest(run, run % 2 == 0);
            RulesTest other = new RulesTest(run, run % 2 == 0);
            for (int call = 0; call < 512; call++) {
                DUE.is("run " + run + ", call " + call, one.any(), other.any());
            }
        }
    }

    private int below(int bound) {
        seed = seed * 6364136223846793005L + 1442695040888963407L;
        return (int) ((seed >>> 33) % bound);
    }

    private int argument() {
        return ARGUMENTS[below(ARGUMENTS.length)];
    }

    /** Mostly one that was made, so that the runs get far. */
    private int message() {
        return below(4) == 0 ? argument() : below(104);
    }

    /** One call of any kind; renew seldom, so that the bounds are reached in between. */
    private int any() {
        int kind = below(19);
        int p = argument();
        switch (kind) {
            case 0: return x.input(p, argument() * (below(9) - 4));
            case 1: return x.deliver(message());
            case 2: return x.lose(message()) ? 1 : 0;
            case 3: return x.resend(p);
            case 4: return x.flush(p);
            case 5: return x.checkpoint(p);
            case 6: return x.crash(p);
            case 7: return x.restart(p);
            case 8: return x.learn(p);
            case 9: return x.release(p);
            case 10: return x.released(p, argument());
            case 11: return x.outputs(p);
            case 12: return x.state(p);
            case 13: return x.length(p);
            case 14: return x.known(p);
            case 15: return x.status(message());
            case 16: return x.orphans();
            case 17: return x.replayed(p);
            default: return renewed();
        }
    }

    private int renewed() {
        if (renews && below(100) == 0) {
            x.renew();
        }
        return 0;
    }
}
