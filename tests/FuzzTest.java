import java.lang.reflect.InvocationTargetException;
import java.lang.reflect.Method;
import java.lang.reflect.Modifier;
import java.util.ArrayList;
import java.util.Arrays;
import java.util.Comparator;
import java.util.List;

/**
 * Runs of calls with all kinds of arguments: each call throws only what its face names, never what the
 * machine throws, and one that throws changes nothing, which a second object shows that is spared it.
 */
public final class FuzzTest {
    private static final int RUNS = 150;
    private static final int CALLS = 512;
    private static final String LETTERS = "vv01&|*<>lgdhewitnfbcpox?";
    private static final int[] ODD = {Integer.MIN_VALUE, Integer.MAX_VALUE, -1, 8, 12, 40, 41, 255, 256, 4096, -4096, 65536};

    public static void main(String[] args) throws IllegalAccessException {
        Method[] methods = face();
        int thrown = 0;
        int answered = 0;
        for (int run = 0; run < RUNS; run++) {
            Draw draw = new Draw(1000 + run);
            Residuary x = new Residuary();
            Residuary spared = new Residuary();
            int odd = run % 3 == 0 ? 4 : 12;
            for (int call = 0; call < CALLS; call++) {
                Method method = methods[draw.below(methods.length)];
                if (draw.below(4) == 0) {
                    method = named(methods, draw.below(3) == 0 ? "chain" : "formula");
                }
                Object[] given = arguments(method, draw, odd);
                Object answer = answer(method, x, given);
                if (answer instanceof RuntimeException) {
                    thrown++;
                    check(method, given, (RuntimeException) answer);
                } else {
                    answered++;
                    Check.same("run " + run + ", call " + call + ", " + method.getName() + Arrays.toString(given),
                            answer(method, spared, given), answer);
                }
            }
        }
        Check.isTrue("calls that throw", thrown > 1000);
        Check.isTrue("calls that answer", answered > 1000);
        Check.end("FuzzTest");
    }

    private static Method[] face() {
        List<Method> result = new ArrayList<>();
        for (Method method : Residuary.class.getDeclaredMethods()) {
            if (Modifier.isPublic(method.getModifiers())) {
                result.add(method);
            }
        }
        // The order in which methods are told is not always the same.
        result.sort(Comparator.comparing(Method::getName));
        return result.toArray(new Method[0]);
    }

    private static Method named(Method[] methods, String name) {
        for (Method method : methods) {
            if (method.getName().equals(name)) {
                return method;
            }
        }
        throw new IllegalStateException(name);
    }

    private static Object[] arguments(Method method, Draw draw, int odd) {
        Class<?>[] types = method.getParameterTypes();
        Object[] result = new Object[types.length];
        for (int i = 0; i < types.length; i++) {
            if (types[i] == boolean.class) {
                result[i] = draw.below(2) == 0;
            } else if (types[i] == char.class) {
                result[i] = draw.below(50) == 0 ? (char) draw.below(65536) : draw.of(LETTERS);
            } else {
                result[i] = draw.below(odd) == 0 ? ODD[draw.below(ODD.length)] : draw.below(1 + draw.below(12));
            }
        }
        return result;
    }

    private static Object answer(Method method, Residuary x, Object[] given) throws IllegalAccessException {
        try {
            return method.invoke(x, given);
        } catch (InvocationTargetException e) {
            if (e.getCause() instanceof RuntimeException) {
                return e.getCause();
            }
            throw new IllegalStateException(method.getName() + Arrays.toString(given), e.getCause());
        }
    }

    private static void check(Method method, Object[] given, RuntimeException got) {
        String what = method.getName() + Arrays.toString(given) + " throws " + got;
        Check.isTrue(what, Arrays.asList((Object[]) method.getExceptionTypes()).contains(got.getClass()));
        Check.isFalse(what, String.valueOf(got.getMessage()).contains("by zero"));
    }
}
