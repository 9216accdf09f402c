import java.lang.reflect.Method;
import java.util.ArrayList;
import java.util.Arrays;
import java.util.Comparator;
import java.util.List;
import java.util.Random;
import java.util.Set;

/**
 * Any calls with any arguments: none throws, the same calls give the same answers, and queries and calls that
 * answer an error code leave the state as it was.
 */
public final class AnyCallsTest {
    private static final Set<String> CHANGES = Set.of("setWorlds", "setLetter", "setTransition", "loadModel",
            "appendChar", "parseFormula", "dropFormula", "storeMember", "applyFilter", "unfold", "unroll", "save",
            "restore", "allocate", "store", "copy");
    private static final int[] ODD = {-1, -2, 6, 7, 12, 13, 31, 32, 33, 63, 64, 100, 127, 128, 1000, 1023, 1024,
        Integer.MAX_VALUE, Integer.MIN_VALUE, Integer.MAX_VALUE - 1, 1 << 16, 1 << 30};
    private static final String SIGNS = "01pqrs!&|-[]<>()abc;+*?";
    private static final String[] TEXTS = {"[(a+b)*]p", "<a;?q;b>r", "[a*]p-[(a;a)*]p", "[?p*;a]q", "1", "s",
        "[(?[a*]p;b)*]<c>1", "p&[a*](p-[a]p)-[a*]p", "[a***]0", "!!p|q&r", "[(a*;b*)*;c*]p"};

    public static void main(String[] args) throws ReflectiveOperationException {
        List<Method> methods = new ArrayList<>();
        for (Method m : DynamicLogicProver.class.getDeclaredMethods()) {
            if (java.lang.reflect.Modifier.isPublic(m.getModifiers())) {
                methods.add(m);
            }
        }
        methods.sort(Comparator.comparing(Method::getName));
        Check.due("methods", methods.size(), 50);
        int seeds = args.length > 0 ? Integer.parseInt(args[0]) : 30;
        for (int seed = 0; seed < seeds && Check.wrong() < 20; seed++) {
            run(seed, methods);
        }
        Check.finish();
    }

    private static void run(int seed, List<Method> methods) throws ReflectiveOperationException {
        Random random = new Random(seed);
        DynamicLogicProver x = new DynamicLogicProver();
        DynamicLogicProver twin = new DynamicLogicProver();
        for (int i = 0; i < 512; i++) {
            Method m = methods.get(random.nextInt(methods.size()));
            if (random.nextInt(12) == 0 && x.count(3) == 0) {
                String text = TEXTS[random.nextInt(TEXTS.length)];
                Check.due("the twin", Check.parse(x, text), Check.parse(twin, text));
                continue;
            }
            Object[] arguments = arguments(m, random);
            String before = state(x);
            long answer = ((Number) m.invoke(x, arguments)).longValue();
            String call = "seed " + seed + " " + m.getName() + Arrays.toString(arguments);
            Check.due(call + " of the twin", ((Number) m.invoke(twin, arguments)).longValue(), answer);
            boolean keeps = !CHANGES.contains(m.getName())
                    || answer < 0 && !(m.getName().equals("parseFormula") && answer != -4);
            if (keeps) {
                Check.isTrue(call + " keeps the state", before.equals(state(x)));
            }
            Check.isTrue(call + " gives the same state to the twin", state(twin).equals(state(x)));
        }
    }

    private static Object[] arguments(Method m, Random random) {
        Class<?>[] types = m.getParameterTypes();
        Object[] all = new Object[types.length];
        for (int i = 0; i < all.length; i++) {
            int odd = ODD[random.nextInt(ODD.length)];
            if (types[i] == boolean.class) {
                all[i] = random.nextInt(4) != 0;
            } else if (types[i] == long.class) {
                all[i] = random.nextBoolean() ? random.nextLong() : (long) odd;
            } else if (m.getName().equals("appendChar")) {
                all[i] = random.nextInt(20) == 0 ? odd : (int) SIGNS.charAt(random.nextInt(SIGNS.length()));
            } else if (m.getName().equals("setWorlds") && random.nextInt(4) != 0) {
                all[i] = 3 + random.nextInt(4);
            } else {
                all[i] = random.nextInt(12) == 0 ? odd : random.nextInt(random.nextBoolean() ? 3 : 6);
            }
        }
        return all;
    }

    /** All that queries show of the state. */
    private static String state(DynamicLogicProver x) {
        StringBuilder all = new StringBuilder();
        for (int what = 0; what < 4; what++) {
            all.append(x.count(what)).append(',');
        }
        for (int world = 0; world < x.count(0); world++) {
            all.append(x.letters(world)).append(',');
            for (int program = 0; program < 3; program++) {
                all.append(x.successors(program, world)).append(',');
            }
        }
        for (int f = 0; f < x.count(2); f++) {
            all.append(Check.text(x, f)).append(',');
        }
        for (int buffer = 0; buffer < 6; buffer++) {
            for (int i = 0; i <= 60 && x.load(buffer, i) != Long.MIN_VALUE; i++) {
                all.append(x.load(buffer, i)).append(',');
            }
            all.append(x.copy(buffer, 0, buffer, 0, 0)).append(';');
        }
        return all.toString();
    }
}
