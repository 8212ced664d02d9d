import java.lang.reflect.InvocationTargetException;
import java.lang.reflect.Method;
import java.lang.reflect.Modifier;
import java.util.ArrayList;
import java.util.Arrays;
import java.util.Comparator;
import java.util.List;
import java.util.Map;
import java.util.TreeMap;

/**
 * Long runs of all calls, each answer compared with the one of {@link PlainRegistry}. Each call has to
 * answer, and to throw each exception of its face, often enough for the comparison to be one.
 */
public final class WholeTest {
    private static final int CALLS = 512;
    private static final int LONGEST_DEEP = 60;
    private static final int[] ODD = {Integer.MIN_VALUE, Integer.MAX_VALUE, -1, -2, 8, 9, 10, 12, 40, 41, 101, 256, 65536};

    private final Draw draw;
    private final Residuary x = new Residuary();
    private final PlainRegistry plain = new PlainRegistry();
    /** How often a run is given what there is not: once in so many arguments. */
    private final int odd;
    /** Whether later formulas are drawn more often, which are longer. */
    private final boolean isDeep;

    private WholeTest(int run) {
        draw = new Draw(77000 + run);
        odd = new int[] {8, 20, 60}[run % 3];
        isDeep = run % 2 == 1;
    }

    public static void main(String[] args) throws IllegalAccessException {
        int runs = args.length > 0 ? Integer.parseInt(args[0]) : 200;
        int from = args.length > 1 ? Integer.parseInt(args[1]) : 0;
        Map<String, Integer> seen = new TreeMap<>();
        Method[] methods = face();
        for (int run = from; run < from + runs; run++) {
            new WholeTest(run).compare(methods, "run " + run, seen);
        }
        for (Method method : methods) {
            Check.isTrue(method.getName() + " answers", seen.containsKey(method.getName()));
            for (Class<?> thrown : method.getExceptionTypes()) {
                Check.isTrue(method.getName() + " throws " + thrown.getName(),
                        seen.containsKey(method.getName() + " " + thrown.getName()));
            }
        }
        if (args.length > 0) {
            System.out.println(seen);
        }
        Check.end("WholeTest");
    }

    private static Method[] face() {
        List<Method> result = new ArrayList<>();
        for (Method method : Residuary.class.getDeclaredMethods()) {
            if (Modifier.isPublic(method.getModifiers())) {
                result.add(method);
            }
        }
        // The order in which methods are told is not always the same.
        result.sort(Comparator.comparing(Method::getName));
        return result.toArray(new Method[0]);
    }

    private void compare(Method[] methods, String run, Map<String, Integer> seen) throws IllegalAccessException {
        for (int call = 0; call < CALLS; call++) {
            Method method = next(methods, call);
            String name = method.getName();
            Object[] given = arguments(method);
            Object got = answer(method, given);
            Object due = plain.answer(name, given);
            if (due != PlainRegistry.UNKNOWN) {
                seen.merge(got instanceof Class ? name + " " + ((Class<?>) got).getName() : name, 1, Integer::sum);
                Check.same(run + ", call " + call + ", " + name + Arrays.toString(given), got, due);
            }
        }
    }

    /** What fills the object comes more often than the rest, and sooner. */
    private Method next(Method[] methods, int call) {
        String name = null;
        int lot = draw.below(call < 60 ? 3 : 12);
        if (lot == 0) {
            name = call < 60 || draw.below(3) == 0 ? "formula" : "tell";
        } else if (lot == 1) {
            name = List.of("chain", "world", "above", "word", "say", "rule", "fact", "has").get(draw.below(8));
        }
        if (name == null) {
            Method method = methods[draw.below(methods.length)];
            // What empties is drawn more seldom.
            return method.getName().startsWith("clear") && draw.below(4) > 0 ? next(methods, call) : method;
        }
        for (Method method : methods) {
            if (method.getName().equals(name)) {
                return method;
            }
        }
        throw new IllegalStateException(name);
    }

    private Object answer(Method method, Object[] given) throws IllegalAccessException {
        try {
            return method.invoke(x, given);
        } catch (InvocationTargetException e) {
            return e.getCause().getClass();
        }
    }

    // ---- arguments

    private Object[] arguments(Method method) {
        Class<?>[] types = method.getParameterTypes();
        String name = method.getName();
        Object[] result = new Object[types.length];
        for (int i = 0; i < types.length; i++) {
            if (types[i] == boolean.class) {
                result[i] = draw.below(2) == 0;
            } else if (types[i] == char.class) {
                result[i] = draw.below(odd) == 0 ? (char) draw.below(300) : draw.of(letters(name));
            } else {
                result[i] = draw.below(odd) == 0 ? ODD[draw.below(ODD.length)] : number(name, i, result);
            }
        }
        return result;
    }

    private static String letters(String name) {
        switch (name) {
            case "chain":
                return "lgdhhh";
            case "make":
                return "*&|<>";
            case "keeps":
                return "cipdnbo";
            case "formula":
                return "vvvv01&|*<>&|*<>";
            case "fails":
                return "lgd";
            case "isProved":
            case "leads":
                return "lewi";
            case "proof":
                return "lew";
            case "four":
                return "nftb";
            default:
                return "lgp";
        }
    }

    private int number(String name, int at, Object[] ahead) {
        switch (name) {
            case "chain":
                return 2 + draw.below(1 + draw.below(7));
            case "count":
                // Five elements take the plain way long, and are counted by another test.
                return 2 + draw.below(3);
            case "formula":
                return ahead[0].equals('v') ? draw.below(4) : aFormula();
            case "world":
            case "above":
                return draw.below(Math.max(1, plain.above.size()));
            case "has":
                return at == 0 ? draw.below(Math.max(1, plain.above.size())) : draw.below(4);
            case "holds":
                return at == 0 ? draw.below(Math.max(1, plain.above.size())) : aFormula();
            case "four":
                return draw.below(4);
            case "word":
                return at == 0 ? draw.below(1 + plain.words.size()) : aFormula();
            case "say":
                return draw.below(Math.max(1, plain.words.size()));
            case "fact":
                return at == 0 ? draw.below(10) : draw.below(101);
            case "grade":
                return draw.below(10);
            case "rule":
                return at == 3 ? 100 - draw.below(1 + draw.below(101)) : at == 1 ? draw.below(11) - 1 : draw.below(10);
            case "length":
            case "fails":
            case "deny":
            case "translate":
            case "isProved":
            case "proof":
            case "leads":
            case "holdsAlways":
            case "fourOf":
            case "isFour":
            case "parse":
                return aFormula();
            default:
                return at == 0 ? draw.below(Math.max(1, plain.algebras.size())) : ofAlgebra(name, at, ahead);
        }
    }

    /** The next numbers of a call that has an algebra first. */
    private int ofAlgebra(String name, int at, Object[] ahead) {
        int number = (Integer) ahead[0];
        int n = number >= 0 && number < plain.algebras.size() ? plain.algebras.get(number).n : 3;
        switch (name) {
            case "times":
            case "sum":
            case "areAlike":
            case "isPart":
                return draw.below(Math.max(1, plain.algebras.size()));
            case "tell":
            case "make":
            case "isBelow":
                // The lesser one is often what keeps a product right.
                return name.equals("tell") && at == 3 && draw.below(2) == 0
                        ? Math.min((Integer) ahead[1], (Integer) ahead[2]) : draw.below(n);
            case "part":
            case "classes":
                return draw.below(1 << n);
            case "follows":
                return at == 1 ? draw.below(1 << n) : aFormula();
            case "value":
                return at == 2 ? draw.below(1 + draw.below(n * n)) : aFormula();
            case "between":
                return at == 4 ? draw.below(1 + draw.below(n)) : aFormula();
            default:
                return aFormula();
        }
    }

    /** One of the formulas, mostly one of the first ones, or of the last ones; none that is very long. */
    private int aFormula() {
        int count = Math.max(1, plain.formulas.size());
        int result = draw.below(2) == 0 ? draw.below(count) : draw.below(1 + draw.below(count));
        if (isDeep && result < plain.formulas.size() && plain.length(count - 1 - result) <= LONGEST_DEEP) {
            return count - 1 - result;
        }
        return result;
    }
}
