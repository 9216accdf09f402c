import java.lang.reflect.InvocationTargetException;
import java.lang.reflect.Method;
import java.util.ArrayList;
import java.util.Comparator;
import java.util.List;

/**
 * What the tests of boundary cases share. They are methods named by their promise, such as
 * promise02RefusesNoWorlds, and are found by their names, so that none is forgotten.
 */
final class Edge {
    static final int MIN = Integer.MIN_VALUE;
    static final int MAX = Integer.MAX_VALUE;
    static final long NO_VALUE = Long.MIN_VALUE;
    /** So many calls are made on one object before it is looked at and replaced; it must not see 512. */
    private static final int BATCH = 40;

    /** One call on an object. */
    interface Call {
        long on(DynamicLogicProver x);
    }

    /** A call with the arguments of a row. */
    interface CallWith {
        long on(DynamicLogicProver x, int[] arguments);
    }

    /** The answer that is due for the arguments of a row. */
    interface Due {
        long of(int[] arguments);
    }

    private Edge() { }

    static List<Method> testsOf(Class<?> tests) {
        List<Method> found = new ArrayList<>();
        for (Method m : tests.getDeclaredMethods()) {
            if (m.getName().matches("promise\\d\\d.*")) {
                found.add(m);
            }
        }
        found.sort(Comparator.comparing(Method::getName));
        return found;
    }

    /** Runs every test of a class and ends the program. */
    static void runAll(Class<?> tests) throws ReflectiveOperationException {
        for (Method m : testsOf(tests)) {
            int before = Check.looked();
            Check.begin(m.getName());
            m.setAccessible(true);
            try {
                m.invoke(null);
            } catch (InvocationTargetException e) {
                e.getCause().printStackTrace(System.out);
                Check.isTrue("nothing is thrown", false);
            }
            Check.isTrue("looks at something", Check.looked() > before);
        }
        Check.begin("");
        Check.finish();
    }

    /** The smallest and the largest argument that is taken, those beside them, and the ends of int. */
    static int[] around(int low, int high) {
        return new int[] {MIN, low - 1, low, high, high + 1, MAX};
    }

    /** The same without those that are taken. */
    static int[] outside(int low, int high) {
        return new int[] {MIN, low - 1, high + 1, MAX};
    }

    static boolean isIn(int value, int low, int high) {
        return value >= low && value <= high;
    }

    /** The call answers what is due and leaves the state as it was. */
    static void keeps(Fixture fixture, String name, Call call, long due) {
        DynamicLogicProver x = fixture.make();
        Check.due(name + " on " + fixture, call.on(x), due);
        Check.dueText("the state after " + name + " on " + fixture, Fixture.trace(x), fixture.trace());
    }

    /** Calls with all combinations of arguments answer what is due; none of them may change the state. */
    static void sweep(Fixture fixture, String name, int[][] choices, CallWith call, Due due) {
        int[] chosen = new int[choices.length];
        DynamicLogicProver x = fixture.make();
        int calls = 0;
        for (int more = 0; more >= 0; more = advance(chosen, choices)) {
            int[] arguments = pick(chosen, choices);
            Check.due(name + java.util.Arrays.toString(arguments) + " on " + fixture,
                    call.on(x, arguments), due.of(arguments));
            calls++;
            if (calls % BATCH == 0) {
                Check.dueText("the state after " + name + " on " + fixture, Fixture.trace(x), fixture.trace());
                x = fixture.make();
            }
        }
        Check.dueText("the state after " + name + " on " + fixture, Fixture.trace(x), fixture.trace());
    }

    private static int[] pick(int[] chosen, int[][] choices) {
        int[] arguments = new int[chosen.length];
        for (int i = 0; i < chosen.length; i++) {
            arguments[i] = choices[i][chosen[i]];
        }
        return arguments;
    }

    /** Goes on to the next combination; answers -1 after the last one. */
    private static int advance(int[] chosen, int[][] choices) {
        for (int i = chosen.length - 1; i >= 0; i--) {
            chosen[i]++;
            if (chosen[i] < choices[i].length) {
                return i;
            }
            chosen[i] = 0;
        }
        return -1;
    }
}
