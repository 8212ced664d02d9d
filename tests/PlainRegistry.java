import java.util.ArrayList;
import java.util.Arrays;
import java.util.HashMap;
import java.util.HashSet;
import java.util.List;
import java.util.Map;
import java.util.NoSuchElementException;
import java.util.Set;

/**
 * The whole document once more, each word of it looked up as it stands and nothing kept that could be
 * worked out again, to compare with. A call answers a value, or the class of what it throws.
 */
final class PlainRegistry {
    private static final Class<?> INDEX = IndexOutOfBoundsException.class;
    private static final Class<?> ARGUMENT = IllegalArgumentException.class;
    private static final Class<?> STATE = IllegalStateException.class;
    private static final Class<?> ARITHMETIC = ArithmeticException.class;
    private static final Class<?> UNSUPPORTED = UnsupportedOperationException.class;
    private static final Class<?> MISSING = NoSuchElementException.class;
    /** Answered where working it out plainly would take too long. */
    static final Object UNKNOWN = "unknown";

    final List<PlainAlgebra> algebras = new ArrayList<>();
    /** Each formula as its kind and what it is made of. */
    final List<List<Object>> formulas = new ArrayList<>();
    final List<Set<Integer>> above = new ArrayList<>();
    final List<Set<Integer>> having = new ArrayList<>();
    private final List<int[]> toldAbove = new ArrayList<>();
    private final char[] fours = {'n', 'n', 'n', 'n'};
    final List<List<Integer>> words = new ArrayList<>();
    final List<Integer> sentence = new ArrayList<>();
    private final int[] facts = new int[10];
    final List<int[]> rules = new ArrayList<>();
    private static final Map<String, Integer> COUNTED = new HashMap<>();

    Object answer(String call, Object[] a) {
        Object algebraic = PlainAlgebra.CALLS.contains(call) ? ofAlgebras(call, a) : null;
        if (algebraic != null) {
            return algebraic;
        }
        switch (call) {
            case "formula":
                return formula((Character) a[0], (Integer) a[1], (Integer) a[2]);
            case "length":
                return noFormula(a[0]) ? INDEX : (Object) (int) Math.min(999999.0, length(number(a[0])));
            case "deny":
                return noFormula(a[0]) ? INDEX : kept(() -> deny(number(a[0])));
            case "translate":
                return noFormula(a[0]) ? INDEX : kept(() -> translate(number(a[0])));
            case "formulas":
                return formulas.size();
            case "fails":
                return fails((Character) a[0], a[1]);
            case "isProved":
                return proved((Character) a[0], "lewi", List.of(), a[1], false);
            case "proof":
                return proved((Character) a[0], "lew", List.of(), a[1], true);
            case "leads":
                return proved((Character) a[0], "lewi", List.of(a[1]), a[2], false);
            case "isTrue":
                return true;
            default:
                return ofOthers(call, a);
        }
    }

    private Object ofOthers(String call, Object[] a) {
        switch (call) {
            case "world":
            case "above":
            case "has":
            case "holds":
            case "holdsAlways":
            case "clearFrame":
                return ofFrames(call, a);
            case "four":
            case "fourOf":
            case "isFour":
                return ofFours(call, a);
            case "word":
            case "say":
            case "parse":
            case "clearSentence":
                return ofGrammar(call, a);
            case "fact":
            case "rule":
            case "grade":
            case "meanGrade":
                return ofGrades(call, a);
            default:
                return ofValues(call, a);
        }
    }

    private static int number(Object o) {
        return (Integer) o;
    }

    private static boolean isOutside(Object o, int from, int to) {
        return number(o) < from || number(o) > to;
    }

    private boolean noAlgebra(Object o) {
        return isOutside(o, 0, algebras.size() - 1);
    }

    private boolean noFormula(Object o) {
        return isOutside(o, 0, formulas.size() - 1);
    }

    private boolean noWorld(Object o) {
        return isOutside(o, 0, above.size() - 1);
    }

    private Object added(PlainAlgebra algebra) {
        if (algebra.n > 8) {
            return ARITHMETIC;
        }
        if (algebras.size() == 12) {
            return STATE;
        }
        algebras.add(algebra);
        return algebras.size() - 1;
    }

    // ---- algebras

    private Object ofAlgebras(String call, Object[] a) {
        switch (call) {
            case "chain":
                if ("lgdh".indexOf((Character) a[0]) < 0 || isOutside(a[1], 2, 8)) {
                    return ARGUMENT;
                }
                return added(PlainAlgebra.chain((Character) a[0], number(a[1])));
            case "count":
                if (isOutside(a[0], 2, 5)) {
                    return ARGUMENT;
                }
                return COUNTED.computeIfAbsent(Arrays.toString(a), k -> PlainAlgebra.count(number(a[0]), (Boolean) a[1]));
            case "ofFrame":
                return above.isEmpty() ? MISSING : added(PlainAlgebra.ofSets(upSets()));
            case "times":
            case "sum":
            case "areAlike":
            case "isPart":
                return noAlgebra(a[0]) || noAlgebra(a[1]) ? INDEX
                        : ofTwo(call, algebras.get(number(a[0])), algebras.get(number(a[1])));
            default:
                return noAlgebra(a[0]) ? INDEX : ofOne(call, algebras.get(number(a[0])), a);
        }
    }

    private Object ofTwo(String call, PlainAlgebra one, PlainAlgebra other) {
        switch (call) {
            case "times":
                return one.n * other.n > 8 ? ARITHMETIC : added(PlainAlgebra.pairs(one, other));
            case "sum":
                return one.n + other.n - 1 > 8 ? ARITHMETIC : added(PlainAlgebra.sum(one, other));
            case "areAlike":
                return one.n == other.n && PlainAlgebra.canMap(one, other, "*");
            default:
                return !one.isRight() || !other.isRight() ? UNSUPPORTED : (Object) PlainAlgebra.canMap(one, other, "*&|<>");
        }
    }

    private Object ofOne(String call, PlainAlgebra algebra, Object[] a) {
        switch (call) {
            case "elements":
                return algebra.n;
            case "isRight":
                return algebra.isRight();
            case "tell": {
                if (algebra.lacks(a[1]) || algebra.lacks(a[2]) || algebra.lacks(a[3])) {
                    return ARGUMENT;
                }
                if (!algebra.isByHand) {
                    return UNSUPPORTED;
                }
                int before = algebra.times[number(a[1])][number(a[2])];
                algebra.times[number(a[1])][number(a[2])] = number(a[3]);
                algebra.forget();
                return before;
            }
            case "make":
                if ("*&|<>".indexOf((Character) a[1]) < 0 || algebra.lacks(a[2]) || algebra.lacks(a[3])) {
                    return ARGUMENT;
                }
                return !algebra.isRight() ? UNSUPPORTED
                        : (Object) algebra.make((Character) a[1], number(a[2]), number(a[3]));
            case "isBelow":
                return algebra.lacks(a[1]) || algebra.lacks(a[2]) ? ARGUMENT
                        : (Object) algebra.atMost[number(a[1])][number(a[2])];
            case "keeps":
                if ("cipdnbo".indexOf((Character) a[1]) < 0) {
                    return ARGUMENT;
                }
                return !algebra.isRight() ? UNSUPPORTED : (Object) algebra.keeps((Character) a[1]);
            case "part":
                if (isNoSet(algebra, a[1])) {
                    return ARGUMENT;
                }
                return !algebra.isRight() ? UNSUPPORTED : (Object) algebra.part(number(a[1]));
            case "classes":
                if (isNoSet(algebra, a[1])) {
                    return ARGUMENT;
                }
                return !algebra.isRight() ? UNSUPPORTED : (Object) algebra.classes(number(a[1]));
            case "filters":
                return !algebra.isRight() ? UNSUPPORTED : (Object) algebra.filters((Boolean) a[1]).size();
            case "isSimple":
                return !algebra.isRight() ? UNSUPPORTED : (Object) (algebra.filters(true).size() == 2);
            default:
                return !algebra.isRight() ? UNSUPPORTED : (Object) algebra.isOne();
        }
    }

    private static boolean isNoSet(PlainAlgebra algebra, Object set) {
        for (int bit = algebra.n; bit < 32; bit++) {
            if ((number(set) >> bit & 1) != 0) {
                return true;
            }
        }
        return false;
    }

    // ---- formulas

    private interface Adding {
        int add();
    }

    /** What would have more than 40 formulas is taken back. */
    private Object kept(Adding adding) {
        int before = formulas.size();
        int result = adding.add();
        if (formulas.size() <= 40) {
            return result;
        }
        while (formulas.size() > before) {
            formulas.remove(formulas.size() - 1);
        }
        return STATE;
    }

    private int put(char kind, Object... sides) {
        List<Object> made = new ArrayList<>();
        made.add(kind);
        made.addAll(Arrays.asList(sides));
        if (!formulas.contains(made)) {
            formulas.add(made);
        }
        return formulas.indexOf(made);
    }

    private Object formula(char kind, int first, int second) {
        if ("v01&|*<>".indexOf(kind) < 0 || (kind == 'v' && isOutside(first, 0, 3))) {
            return ARGUMENT;
        }
        boolean isMade = "&|*<>".indexOf(kind) >= 0;
        if (isMade && (noFormula(first) || noFormula(second))) {
            return INDEX;
        }
        return kept(() -> isMade ? put(kind, first, second) : kind == 'v' ? put(kind, first) : put(kind));
    }

    char kind(int f) {
        return (Character) formulas.get(f).get(0);
    }

    int side(int f, int which) {
        return (Integer) formulas.get(f).get(which);
    }

    private boolean isMade(int f) {
        return formulas.get(f).size() == 3;
    }

    double length(int f) {
        return isMade(f) ? 1 + length(side(f, 1)) + length(side(f, 2)) : 1;
    }

    private Set<Integer> parts(int f) {
        Set<Integer> result = new HashSet<>();
        result.add(f);
        for (int which = 1; which <= 2 && isMade(f); which++) {
            result.addAll(parts(side(f, which)));
        }
        return result;
    }

    /** The numbers of the variables that occur. */
    private Set<Integer> variables(int f) {
        Set<Integer> result = new HashSet<>();
        for (int part : parts(f)) {
            if (kind(part) == 'v') {
                result.add(side(part, 1));
            }
        }
        return result;
    }

    private int deny(int f) {
        int zero = put('0');
        return put('<', put('<', f, zero), zero);
    }

    private int translate(int f) {
        boolean isAsItIs = true;
        for (int part : parts(f)) {
            isAsItIs &= kind(part) != 'v' && kind(part) != '|';
        }
        if (!isAsItIs) {
            put('0');
        }
        return translated(f);
    }

    private int translated(int f) {
        if (!isMade(f)) {
            return kind(f) == 'v' ? deny(f) : f;
        }
        int first = translated(side(f, 1));
        int second = translated(side(f, 2));
        int itself = put(kind(f), first, second);
        return kind(f) == '|' ? deny(itself) : itself;
    }

    // ---- values

    private Object ofValues(String call, Object[] a) {
        if (noAlgebra(a[0])) {
            return INDEX;
        }
        PlainAlgebra algebra = algebras.get(number(a[0]));
        if (call.equals("follows")) {
            if (noFormula(a[2]) || noFormula(a[3]) || noFormula(a[4])) {
                return INDEX;
            }
            if (isNoSet(algebra, a[1])) {
                return ARGUMENT;
            }
            return !algebra.isRight() ? UNSUPPORTED
                    : (Object) follows(algebra, number(a[1]), number(a[2]), number(a[3]), number(a[4]));
        }
        boolean areTwo = List.of("areSame", "between", "canLieBetween").contains(call);
        if (noFormula(a[1]) || (areTwo && noFormula(a[2]))) {
            return INDEX;
        }
        int f = number(a[1]);
        int g = areTwo ? number(a[2]) : f;
        Set<Integer> both = new HashSet<>(variables(f));
        both.retainAll(variables(g));
        if ((call.equals("value") && isOutside(a[2], 0, allValues(algebra, f).size() - 1))
                || (call.equals("between") && isOutside(a[4], 0, (int) Math.pow(algebra.n, both.size()) - 1))) {
            return ARGUMENT;
        }
        if (!algebra.isRight()) {
            return UNSUPPORTED;
        }
        switch (call) {
            case "value":
                return value(algebra, f, allValues(algebra, f).get(number(a[2])));
            case "isValid":
                return failures(algebra, f).isEmpty();
            case "refute":
                return failures(algebra, f).isEmpty() ? MISSING : (Object) failures(algebra, f).get(0);
            case "areSame":
                for (int[] values : allValues(algebra, f, g)) {
                    if (value(algebra, f, values) != value(algebra, g, values)) {
                        return false;
                    }
                }
                return true;
            case "shareBits": {
                int all = allValues(algebra, f).size();
                return Float.floatToIntBits((float) (all - failures(algebra, f).size()) / (float) all);
            }
            case "between":
                return bound(algebra, (Boolean) a[3] ? g : f, both, number(a[4]), (Boolean) a[3] ? '&' : '|');
            default:
                for (int values = 0; values < (int) Math.pow(algebra.n, both.size()); values++) {
                    if (!algebra.atMost[bound(algebra, f, both, values, '|')][bound(algebra, g, both, values, '&')]) {
                        return false;
                    }
                }
                return true;
        }
    }

    /** All values of the variables up to the greatest one that occurs in any of the formulas, in order. */
    private List<int[]> allValues(PlainAlgebra algebra, int... asked) {
        int greatest = -1;
        for (int f : asked) {
            for (int variable : variables(f)) {
                greatest = Math.max(greatest, variable);
            }
        }
        List<int[]> result = new ArrayList<>();
        result.add(new int[4]);
        for (int variable = 0; variable <= greatest; variable++) {
            List<int[]> more = new ArrayList<>();
            for (int element = 0; element < algebra.n; element++) {
                for (int[] values : result) {
                    int[] copy = values.clone();
                    copy[variable] = element;
                    more.add(copy);
                }
            }
            result = more;
        }
        return result;
    }

    private int value(PlainAlgebra algebra, int f, int[] values) {
        switch (kind(f)) {
            case 'v':
                return values[side(f, 1)];
            case '0':
                return 0;
            case '1':
                return algebra.n - 1;
            default:
                return algebra.make(kind(f), value(algebra, side(f, 1), values), value(algebra, side(f, 2), values));
        }
    }

    private List<Integer> failures(PlainAlgebra algebra, int f) {
        List<Integer> result = new ArrayList<>();
        int index = 0;
        for (int[] values : allValues(algebra, f)) {
            if (value(algebra, f, values) != algebra.n - 1) {
                result.add(index);
            }
            index++;
        }
        return result;
    }

    private int bound(PlainAlgebra algebra, int f, Set<Integer> both, int number, char by) {
        Integer result = null;
        for (int[] values : allValues(algebra, f)) {
            int rest = number;
            boolean isOne = true;
            for (int variable = 0; variable < 4; variable++) {
                if (both.contains(variable)) {
                    isOne &= values[variable] == rest % algebra.n;
                    rest /= algebra.n;
                }
            }
            if (isOne) {
                int value = value(algebra, f, values);
                result = result == null ? value : algebra.make(by, result, value);
            }
        }
        return result;
    }

    private boolean follows(PlainAlgebra algebra, int designated, int f, int g, int conclusion) {
        for (int[] values : allValues(algebra, f, g, conclusion)) {
            boolean areDesignated = (designated >> value(algebra, f, values) & 1) == 1
                    && (designated >> value(algebra, g, values) & 1) == 1;
            if (areDesignated && (designated >> value(algebra, conclusion, values) & 1) == 0) {
                return false;
            }
        }
        return true;
    }

    private Object fails(char kind, Object f) {
        if ("lgd".indexOf(kind) < 0) {
            return ARGUMENT;
        }
        if (noFormula(f)) {
            return INDEX;
        }
        for (int n = 2; n <= 8; n++) {
            if (!failures(PlainAlgebra.chain(kind, n), number(f)).isEmpty()) {
                return n;
            }
        }
        return MISSING;
    }

    // ---- proofs

    private Object proved(char logic, String logics, List<Object> row, Object goal, boolean isSize) {
        if (logics.indexOf(logic) < 0) {
            return ARGUMENT;
        }
        if (noFormula(goal) || (!row.isEmpty() && noFormula(row.get(0)))) {
            return INDEX;
        }
        List<Integer> numbers = new ArrayList<>();
        for (Object f : row) {
            numbers.add(number(f));
        }
        PlainSearch search = search();
        if (logic == 'i') {
            Set<Integer> parts = parts(number(goal));
            Set<Object> trees = new HashSet<>();
            for (int f : numbers) {
                parts.addAll(parts(f));
                trees.add(search.tree(f));
            }
            return parts.size() > 9 ? UNSUPPORTED : (Object) search.intuitionistic(trees, search.tree(number(goal)));
        }
        Object size = search.size(logic, numbers, number(goal), 302);
        if (search.givesUp()) {
            return UNSUPPORTED;
        }
        if (isSize) {
            return size == null ? MISSING : (Object) Integer.valueOf(size.toString());
        }
        return size != null;
    }

    private PlainSearch search() {
        PlainSearch result = new PlainSearch();
        for (int f = 0; f < formulas.size(); f++) {
            result.kinds.add(new char[] {kind(f)});
            result.sides.add(isMade(f) ? new int[] {side(f, 1), side(f, 2)}
                    : new int[] {kind(f) == 'v' ? side(f, 1) : 0, 0});
        }
        return result;
    }

    // ---- frames

    private Object ofFrames(String call, Object[] a) {
        switch (call) {
            case "world":
                if (above.size() == 5) {
                    return STATE;
                }
                above.add(new HashSet<>());
                having.add(new HashSet<>());
                return above.size() - 1;
            case "above":
                if (noWorld(a[0]) || noWorld(a[1])) {
                    return INDEX;
                }
                if (number(a[1]) <= number(a[0])) {
                    return ARGUMENT;
                }
                above.get(number(a[0])).add(number(a[1]));
                return pairs();
            case "has":
                if (noWorld(a[0])) {
                    return INDEX;
                }
                if (isOutside(a[1], 0, 3)) {
                    return ARGUMENT;
                }
                having.get(number(a[0])).add(number(a[1]));
                return worldsWith(number(a[1])).size();
            case "holds":
                return noWorld(a[0]) || noFormula(a[1]) ? INDEX
                        : (Object) holds(number(a[0]), number(a[1]), told());
            case "holdsAlways":
                return noFormula(a[0]) ? INDEX : holdsAlways(number(a[0]));
            default: {
                int before = above.size();
                above.clear();
                having.clear();
                return before;
            }
        }
    }

    /** Whether a world is another one, or is come to from it by what was told. */
    private boolean isUp(int from, int to) {
        if (from == to) {
            return true;
        }
        for (int next : above.get(from)) {
            if (isUp(next, to)) {
                return true;
            }
        }
        return false;
    }

    private int pairs() {
        int result = 0;
        for (int i = 0; i < above.size(); i++) {
            for (int k = 0; k < above.size(); k++) {
                result += isUp(i, k) ? 1 : 0;
            }
        }
        return result;
    }

    private Set<Integer> worldsWith(int variable) {
        Set<Integer> result = new HashSet<>();
        for (int i = 0; i < above.size(); i++) {
            for (int k = 0; k < above.size(); k++) {
                if (isUp(i, k) && having.get(i).contains(variable)) {
                    result.add(k);
                }
            }
        }
        return result;
    }

    private List<Set<Integer>> told() {
        return List.of(worldsWith(0), worldsWith(1), worldsWith(2), worldsWith(3));
    }

    private boolean holds(int world, int f, List<Set<Integer>> worlds) {
        switch (kind(f)) {
            case 'v':
                return worlds.get(side(f, 1)).contains(world);
            case '0':
                return false;
            case '1':
                return true;
            case '|':
                return holds(world, side(f, 1), worlds) || holds(world, side(f, 2), worlds);
            case '&':
            case '*':
                return holds(world, side(f, 1), worlds) && holds(world, side(f, 2), worlds);
            default:
                for (int up = world; up < above.size(); up++) {
                    int from = side(f, kind(f) == '<' ? 1 : 2);
                    int to = side(f, kind(f) == '<' ? 2 : 1);
                    if (isUp(world, up) && holds(up, from, worlds) && !holds(up, to, worlds)) {
                        return false;
                    }
                }
                return true;
        }
    }

    private List<Set<Integer>> upSets() {
        List<Set<Integer>> result = new ArrayList<>();
        for (int size = 0; size <= above.size(); size++) {
            for (int set = 0; set < 1 << above.size(); set++) {
                Set<Integer> worlds = new HashSet<>();
                boolean isUpward = Integer.bitCount(set) == size;
                for (int i = 0; i < above.size(); i++) {
                    if ((set >> i & 1) != 0) {
                        worlds.add(i);
                    }
                    for (int k = 0; k < above.size(); k++) {
                        isUpward &= (set >> i & 1) == 0 || !isUp(i, k) || (set >> k & 1) != 0;
                    }
                }
                if (isUpward) {
                    result.add(worlds);
                }
            }
        }
        return result;
    }

    private Object holdsAlways(int f) {
        List<Set<Integer>> sets = upSets();
        List<Integer> occurring = new ArrayList<>(variables(f));
        double choices = Math.pow(sets.size(), occurring.size());
        if (choices * length(f) > 300000) {
            return UNKNOWN;
        }
        for (int choice = 0; choice < choices; choice++) {
            List<Set<Integer>> worlds = new ArrayList<>(List.of(Set.of(), Set.of(), Set.of(), Set.of()));
            int rest = choice;
            for (int variable : occurring) {
                worlds.set(variable, sets.get(rest % sets.size()));
                rest /= sets.size();
            }
            for (int world = 0; world < above.size(); world++) {
                if (!holds(world, f, worlds)) {
                    return false;
                }
            }
        }
        return true;
    }

    // ---- four values

    private Object ofFours(String call, Object[] a) {
        if (call.equals("four")) {
            if (isOutside(a[0], 0, 3) || "nftb".indexOf((Character) a[1]) < 0) {
                return ARGUMENT;
            }
            char before = fours[number(a[0])];
            fours[number(a[0])] = (Character) a[1];
            return before;
        }
        if (noFormula(a[0])) {
            return INDEX;
        }
        if (call.equals("fourOf")) {
            return fourOf(number(a[0]), fours);
        }
        for (char p : "nftb".toCharArray()) {
            for (char q : "nftb".toCharArray()) {
                for (char r : "nftb".toCharArray()) {
                    for (char s : "nftb".toCharArray()) {
                        if ("tb".indexOf(fourOf(number(a[0]), new char[] {p, q, r, s})) < 0) {
                            return false;
                        }
                    }
                }
            }
        }
        return true;
    }

    private char fourOf(int f, char[] values) {
        switch (kind(f)) {
            case 'v':
                return values[side(f, 1)];
            case '0':
                return 'f';
            case '1':
                return 't';
            default:
                break;
        }
        char one = fourOf(side(f, 1), values);
        char other = fourOf(side(f, 2), values);
        boolean isOneTrue = one == 't' || one == 'b';
        boolean isOtherTrue = other == 't' || other == 'b';
        boolean isOneFalse = one == 'f' || one == 'b';
        boolean isOtherFalse = other == 'f' || other == 'b';
        switch (kind(f)) {
            case '<':
                return isOneTrue ? other : 't';
            case '>':
                return isOtherTrue ? one : 't';
            case '|':
                return letter(isOneTrue || isOtherTrue, isOneFalse && isOtherFalse);
            default:
                return letter(isOneTrue && isOtherTrue, isOneFalse || isOtherFalse);
        }
    }

    private static char letter(boolean isTrue, boolean isFalse) {
        return isTrue ? isFalse ? 'b' : 't' : isFalse ? 'f' : 'n';
    }

    // ---- grammar

    private Object ofGrammar(String call, Object[] a) {
        switch (call) {
            case "word": {
                if (isOutside(a[0], 0, words.size()) || noFormula(a[1])) {
                    return INDEX;
                }
                boolean isNew = number(a[0]) == words.size();
                List<Integer> kinds = isNew ? new ArrayList<>() : words.get(number(a[0]));
                if (kinds.contains(number(a[1]))) {
                    return UNSUPPORTED;
                }
                if (isNew ? words.size() == 8 : kinds.size() == 2) {
                    return STATE;
                }
                kinds.add(number(a[1]));
                if (isNew) {
                    words.add(kinds);
                }
                return kinds.size();
            }
            case "say":
                if (isOutside(a[0], 0, words.size() - 1)) {
                    return INDEX;
                }
                if (sentence.size() == 6) {
                    return STATE;
                }
                sentence.add(number(a[0]));
                return sentence.size();
            case "parse":
                if (noFormula(a[0])) {
                    return INDEX;
                }
                return sentence.isEmpty() ? MISSING : parse(number(a[0]));
            default: {
                int before = sentence.size();
                sentence.clear();
                return before;
            }
        }
    }

    private Object parse(int goal) {
        List<List<Object>> rows = new ArrayList<>();
        rows.add(new ArrayList<>());
        for (int word : sentence) {
            List<List<Object>> longer = new ArrayList<>();
            for (List<Object> row : rows) {
                for (int f : words.get(word)) {
                    List<Object> next = new ArrayList<>(row);
                    next.add(f);
                    longer.add(next);
                }
            }
            rows = longer;
        }
        int ways = 0;
        for (List<Object> row : rows) {
            Object isSo = proved('l', "l", row, goal, false);
            if (isSo == UNSUPPORTED) {
                return UNSUPPORTED;
            }
            ways += isSo.equals(true) ? 1 : 0;
        }
        return ways;
    }

    // ---- grades

    private Object ofGrades(String call, Object[] a) {
        switch (call) {
            case "fact": {
                if (isOutside(a[0], 0, 9) || isOutside(a[1], 0, 100)) {
                    return ARGUMENT;
                }
                int before = facts[number(a[0])];
                facts[number(a[0])] = number(a[1]);
                return before;
            }
            case "rule":
                if (isOutside(a[0], 0, 9) || isOutside(a[1], -1, 9) || isOutside(a[2], 0, 9) || isOutside(a[3], 0, 100)) {
                    return ARGUMENT;
                }
                if (rules.size() == 20) {
                    return STATE;
                }
                rules.add(new int[] {number(a[0]), number(a[1]), number(a[2]), number(a[3])});
                return rules.size();
            case "grade":
                if (isOutside(a[0], 0, 9) || "lgp".indexOf((Character) a[1]) < 0) {
                    return ARGUMENT;
                }
                return best((Character) a[1])[number(a[0])];
            default: {
                if ("lgp".indexOf((Character) a[0]) < 0) {
                    return ARGUMENT;
                }
                int sum = 0;
                for (int grade : best((Character) a[0])) {
                    sum += grade;
                }
                return (double) sum / (double) 10;
            }
        }
    }

    /** No grade grows by a rule, so a fact is of no use on a way to itself, and ten steps are enough. */
    private int[] best(char by) {
        int[] result = facts.clone();
        for (int step = 0; step < 10; step++) {
            int[] next = facts.clone();
            for (int[] rule : rules) {
                int brought = combined(by, rule[3], result[rule[0]]);
                if (rule[1] != -1) {
                    brought = combined(by, brought, result[rule[1]]);
                }
                next[rule[2]] = Math.max(next[rule[2]], brought);
            }
            result = next;
        }
        return result;
    }

    private static int combined(char by, int a, int b) {
        return by == 'l' ? Math.max(a + b - 100, 0) : by == 'g' ? Math.min(a, b) : a * b / 100;
    }
}
