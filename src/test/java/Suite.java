import java.lang.reflect.Method;
import java.lang.reflect.Modifier;
import java.util.Arrays;
import java.util.Comparator;

/** A class of tests: each of its methods that is not private, is void and takes nothing is a test of its own. */
abstract class Suite {
    static final int PORT = 0;
    static final int NOT = 1;
    static final int AND = 2;
    static final int OR = 3;
    static final int XOR = 4;
    static final int MUX = 5;
    static final int TRI = 6;
    static final int LATCH = 7;
    static final int REGISTER = 8;
    static final int MIN = Integer.MIN_VALUE;
    static final int MAX = Integer.MAX_VALUE;

    /** By kind, what a, b and c are: n a net, k a clock, s a state, - of no use. */
    static final String[] USES = {"---", "n--", "nn-", "nn-", "nn-", "nnn", "nn-", "nn-", "nks"};

    final Check check = new Check();

    static void run(Suite suite) throws ReflectiveOperationException {
        Method[] methods = suite.getClass().getDeclaredMethods();
        Arrays.sort(methods, Comparator.comparing(Method::getName));
        int tests = 0;
        for (Method method : methods) {
            if (isTest(method)) {
                tests++;
                suite.runOne(method);
            }
        }
        suite.check.equal("there are tests", true, tests > 0);
        suite.check.finish(suite.getClass().getName() + ", " + tests + " tests");
    }

    private static boolean isTest(Method method) {
        int modifiers = method.getModifiers();
        return !Modifier.isPrivate(modifiers) && !Modifier.isStatic(modifiers) && !method.isSynthetic()
                && method.getReturnType() == void.class && method.getParameterCount() == 0;
    }

    private void runOne(Method method) throws ReflectiveOperationException {
        int before = check.done();
        check.under(method.getName());
        try {
            method.invoke(this);
        } catch (java.lang.reflect.InvocationTargetException e) {
            check.fail("ended with " + e.getCause());
        }
        check.equal("it checks something", true, check.done() > before);
    }

    /** The first number that is too great for a use; of no use: none is. */
    static int limit(char use, int nets) {
        return use == 'n' ? nets : use == 'k' ? 2 : 3;
    }

    /** Numbers that a cell of the kind may have, kind first; inputs are nets 5, 6, 7. */
    static int[] fitting(int kind, int out) {
        return new int[] {kind, out, 5, kind == REGISTER ? 0 : 6, kind == REGISTER ? 0 : 7};
    }

    static int[] with(int[] numbers, int place, int number) {
        int[] changed = numbers.clone();
        changed[place] = number;
        return changed;
    }

    static int cell(Circuit x, int[] n) {
        return x.cell(n[0], n[1], n[2], n[3], n[4]);
    }

    static int part(Circuit x, int template, int[] n) {
        return x.part(template, n[0], n[1], n[2], n[3], n[4]);
    }

    static String told(int[] numbers) {
        return Arrays.toString(numbers);
    }
}
