import java.lang.reflect.InvocationTargetException;
import java.lang.reflect.Method;
import java.lang.reflect.Modifier;
import java.util.ArrayList;
import java.util.Arrays;
import java.util.List;

/**
 * All promises, wrong inputs: whatever the arguments and the state, a call throws nothing but what
 * its own face names, and nothing that was refused changes what can be asked.
 */
public final class SafetyTest {
    private static final int[] NUMBERS = {Integer.MIN_VALUE, -1000, -100, -1, 0, 1, 2, 3, 9, 12, 31, 150, 300,
        4095, 4096, 20001, Integer.MAX_VALUE};

    private static int wrong;

    public static void main(String[] args) throws IllegalAccessException {
        for (int state = 0; state < 5; state++) {
            for (Method method : PartMaker.class.getDeclaredMethods()) {
                if (Modifier.isPublic(method.getModifiers())) {
                    askAll(state, method);
                }
            }
        }
        System.out.println(wrong == 0 ? "no call throws what it does not name" : wrong + " calls are wrong");
        if (wrong != 0) {
            System.exit(1);
        }
    }

    private static PartMaker inState(int state) {
        PartMaker maker = new PartMaker();
        if (state == 0) {
            return maker;
        }
        maker.many(state == 4 ? 3 : 1);
        int examples = state == 4 ? 12 : 3;
        for (int e = 0; e < examples; e++) {
            maker.example(e * 7 % 12 - 5, state == 4 ? e - 6 : 0, 0, e % 3);
        }
        if (state >= 2) {
            maker.grow(false);
            maker.grow(false);
            maker.grow(true);
        }
        if (state >= 3) {
            maker.make(3);
            maker.writeMerged(false, 0);
        }
        return maker;
    }

    private static void askAll(int state, Method method) throws IllegalAccessException {
        for (Object[] values : argumentsOf(method)) {
            PartMaker maker = inState(state);
            List<Integer> before = facts(maker);
            try {
                method.invoke(maker, values);
            } catch (InvocationTargetException e) {
                Class<?> thrown = e.getCause().getClass();
                boolean isNamed = Arrays.asList(method.getExceptionTypes()).contains(thrown);
                if (!isNamed || !facts(maker).equals(before)) {
                    wrong++;
                    System.out.println("state " + state + ": " + method.getName() + Arrays.toString(values)
                            + " throws " + thrown.getSimpleName() + (isNamed ? " and changes something" : ""));
                }
            }
        }
    }

    /** Each argument takes all numbers while the others take a few. */
    private static List<Object[]> argumentsOf(Method method) {
        Class<?>[] types = method.getParameterTypes();
        List<Object[]> all = new ArrayList<>();
        for (int special = 0; special < Math.max(1, types.length); special++) {
            for (int number : NUMBERS) {
                for (int rest = -1; rest <= 1; rest++) {
                    all.add(arguments(types, special, number, rest));
                }
            }
        }
        return all;
    }

    private static Object[] arguments(Class<?>[] types, int special, int number, int rest) {
        Object[] values = new Object[types.length];
        for (int i = 0; i < types.length; i++) {
            if (types[i] == boolean.class) {
                values[i] = (number + rest) % 2 == 0;
            } else {
                values[i] = i == special ? number : rest;
            }
        }
        return values;
    }

    private static List<Integer> facts(PartMaker maker) {
        List<Integer> facts = new ArrayList<>();
        for (int what = 0; what <= 6; what++) {
            facts.add(maker.count(what));
        }
        for (int what = 0; what <= 5; what++) {
            facts.add(maker.grown(false, what));
            facts.add(maker.grown(true, what));
        }
        for (int e = 0; e < maker.count(1); e++) {
            for (int what = 0; what <= 3; what++) {
                facts.add(maker.told(e, what));
            }
        }
        for (int k = 0; k < maker.count(2); k++) {
            facts.add(maker.constantAt(k));
        }
        for (int k = 0; k < maker.count(5); k++) {
            facts.add(maker.octet(k));
        }
        return facts;
    }
}
