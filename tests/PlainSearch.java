import java.math.BigInteger;
import java.util.ArrayDeque;
import java.util.ArrayList;
import java.util.Collections;
import java.util.HashMap;
import java.util.HashSet;
import java.util.List;
import java.util.Map;
import java.util.Set;

/**
 * The rules of the sequents once more, as plainly as the document says them and with no thought of
 * cost, to compare with. Formulas are kept by the numbers that the program gave them.
 */
final class PlainSearch {
    final List<char[]> kinds = new ArrayList<>();
    final List<int[]> sides = new ArrayList<>();

    /** A row and the formula that it leads to, last. */
    private char logic;
    private final Map<List<Integer>, BigInteger> sizes = new HashMap<>();
    /** How many unlike sequents were come to, at most the limit; and the longest row. */
    int reached;
    int longest;
    /** Whether nothing is come to from a sequent that is closed, which the document does not say. */
    boolean stopsAtClosed;

    int add(Residuary x, char kind, int first, int second) {
        int number = x.formula(kind, first, second);
        while (kinds.size() <= number) {
            kinds.add(null);
            sides.add(null);
        }
        kinds.set(number, new char[] {kind});
        sides.set(number, new int[] {first, second});
        return number;
    }

    char kind(int formula) {
        return kinds.get(formula)[0];
    }

    int first(int formula) {
        return sides.get(formula)[0];
    }

    int second(int formula) {
        return sides.get(formula)[1];
    }

    /** The size of the smallest proof, null for none; without a bound but that of the limit. */
    BigInteger size(char logic, List<Integer> row, int goal, int limit) {
        this.logic = logic;
        sizes.clear();
        List<Integer> asked = sequent(row, goal);
        reach(asked, limit);
        return reached >= limit || longest > 12 ? null : smallest(asked);
    }

    boolean givesUp() {
        return reached > 300 || longest > 12;
    }

    private List<Integer> sequent(List<Integer> row, int goal) {
        List<Integer> result = new ArrayList<>(row);
        if (logic != 'l') {
            Collections.sort(result);
        }
        result.add(goal);
        return result;
    }

    private void reach(List<Integer> asked, int limit) {
        Set<List<Integer>> seen = new HashSet<>();
        ArrayDeque<List<Integer>> open = new ArrayDeque<>();
        seen.add(asked);
        open.add(asked);
        longest = 0;
        while (!open.isEmpty() && seen.size() < limit && longest <= 12) {
            List<Integer> next = open.remove();
            longest = Math.max(longest, next.size() - 1);
            if (longest > 12) {
                break;
            }
            boolean goesOn = !stopsAtClosed || !isClosed(next);
            for (List<List<Integer>> needs : goesOn ? rules(next) : List.<List<List<Integer>>>of()) {
                for (List<Integer> need : needs) {
                    if (seen.add(need)) {
                        open.add(need);
                    }
                }
            }
        }
        reached = seen.size();
    }

    private BigInteger smallest(List<Integer> asked) {
        if (sizes.containsKey(asked)) {
            return sizes.get(asked);
        }
        BigInteger best = isClosed(asked) ? BigInteger.ONE : null;
        for (List<List<Integer>> needs : rules(asked)) {
            BigInteger sum = BigInteger.ONE;
            for (List<Integer> need : needs) {
                BigInteger part = smallest(need);
                sum = sum == null || part == null ? null : sum.add(part);
            }
            if (sum != null && (best == null || sum.compareTo(best) < 0)) {
                best = sum;
            }
        }
        sizes.put(asked, best);
        return best;
    }

    private boolean isClosed(List<Integer> sequent) {
        List<Integer> row = sequent.subList(0, sequent.size() - 1);
        int goal = sequent.get(sequent.size() - 1);
        for (int f : row) {
            if (kind(f) == '0') {
                return true;
            }
        }
        boolean mayDrop = logic == 'w';
        if (kind(goal) == 'v' && row.contains(goal) && (mayDrop || row.size() == 1)) {
            return true;
        }
        return kind(goal) == '1' && (mayDrop || row.isEmpty());
    }

    private List<Integer> put(List<Integer> row, int at, int... instead) {
        List<Integer> result = new ArrayList<>(row.subList(0, at));
        for (int f : instead) {
            result.add(f);
        }
        result.addAll(row.subList(at + 1, row.size()));
        return result;
    }

    private List<List<List<Integer>>> rules(List<Integer> sequent) {
        List<List<List<Integer>>> result = new ArrayList<>();
        List<Integer> row = new ArrayList<>(sequent.subList(0, sequent.size() - 1));
        int goal = sequent.get(sequent.size() - 1);
        int p = first(goal);
        int q = second(goal);
        switch (kind(goal)) {
            case '&':
                result.add(List.of(sequent(row, p), sequent(row, q)));
                break;
            case '|':
                result.add(List.of(sequent(row, p)));
                result.add(List.of(sequent(row, q)));
                break;
            case '*':
                productRules(row, p, q, result);
                break;
            case '<': {
                List<Integer> longer = new ArrayList<>(row);
                longer.add(0, p);
                result.add(List.of(sequent(longer, q)));
                break;
            }
            case '>': {
                List<Integer> longer = new ArrayList<>(row);
                longer.add(q);
                result.add(List.of(sequent(longer, p)));
                break;
            }
            default:
                break;
        }
        for (int i = 0; i < row.size(); i++) {
            rowRules(row, i, goal, result);
        }
        return result;
    }

    private void productRules(List<Integer> row, int p, int q, List<List<List<Integer>>> result) {
        int n = row.size();
        for (int mask = 0; mask < 1 << n; mask++) {
            if (logic == 'l' && (mask & mask + 1) != 0) {
                continue;
            }
            List<Integer> one = new ArrayList<>();
            List<Integer> other = new ArrayList<>();
            for (int i = 0; i < n; i++) {
                ((mask >> i & 1) != 0 ? one : other).add(row.get(i));
            }
            result.add(List.of(sequent(one, p), sequent(other, q)));
        }
    }

    private void rowRules(List<Integer> row, int i, int goal, List<List<List<Integer>>> result) {
        int f = row.get(i);
        int p = first(f);
        int q = second(f);
        switch (kind(f)) {
            case '1':
                result.add(List.of(sequent(put(row, i), goal)));
                break;
            case '&':
                result.add(List.of(sequent(put(row, i, p), goal)));
                result.add(List.of(sequent(put(row, i, q), goal)));
                break;
            case '|':
                result.add(List.of(sequent(put(row, i, p), goal), sequent(put(row, i, q), goal)));
                break;
            case '*':
                result.add(List.of(sequent(put(row, i, p, q), goal)));
                break;
            case '<':
                arrowRules(row, i, p, q, goal, false, result);
                break;
            case '>':
                arrowRules(row, i, q, p, goal, true, result);
                break;
            default:
                break;
        }
    }

    private void arrowRules(List<Integer> row, int i, int p, int q, int goal, boolean isOver,
            List<List<List<Integer>>> result) {
        if (logic != 'l') {
            List<Integer> others = put(row, i);
            for (int mask = 0; mask < 1 << others.size(); mask++) {
                List<Integer> taken = new ArrayList<>();
                List<Integer> left = new ArrayList<>();
                for (int k = 0; k < others.size(); k++) {
                    ((mask >> k & 1) != 0 ? taken : left).add(others.get(k));
                }
                left.add(q);
                result.add(List.of(sequent(taken, p), sequent(left, goal)));
            }
        } else if (isOver) {
            for (int to = i + 1; to <= row.size(); to++) {
                List<Integer> left = new ArrayList<>(row.subList(0, i));
                left.add(q);
                left.addAll(row.subList(to, row.size()));
                result.add(List.of(sequent(row.subList(i + 1, to), p), sequent(left, goal)));
            }
        } else {
            for (int from = 0; from <= i; from++) {
                List<Integer> left = new ArrayList<>(row.subList(0, from));
                left.add(q);
                left.addAll(row.subList(i + 1, row.size()));
                result.add(List.of(sequent(row.subList(from, i), p), sequent(left, goal)));
            }
        }
    }

    /** 'i' by the rules that need no formula twice: an arrow in the row is taken apart by what it asks for. */
    boolean intuitionistic(Set<Object> row, Object goal) {
        if (row.contains("0") || row.contains(goal) || goal.equals("1")) {
            return true;
        }
        for (Object f : row) {
            if (!(f instanceof List)) {
                continue;
            }
            List<?> parts = (List<?>) f;
            Object a = parts.get(1);
            Object b = parts.get(2);
            if (parts.get(0).equals("&")) {
                return intuitionistic(with(row, f, a, b), goal);
            }
            if (parts.get(0).equals("|")) {
                return intuitionistic(with(row, f, a), goal) && intuitionistic(with(row, f, b), goal);
            }
            if (a.equals("0")) {
                return intuitionistic(with(row, f), goal);
            }
            if (a.equals("1") || (a instanceof String && row.contains(a))) {
                return intuitionistic(with(row, f, b), goal);
            }
            if (a instanceof List) {
                List<?> inner = (List<?>) a;
                if (inner.get(0).equals("&")) {
                    Object turned = List.of("-", inner.get(1), List.of("-", inner.get(2), b));
                    return intuitionistic(with(row, f, turned), goal);
                }
                if (inner.get(0).equals("|")) {
                    return intuitionistic(with(row, f, List.of("-", inner.get(1), b), List.of("-", inner.get(2), b)), goal);
                }
            }
        }
        if (goal instanceof List) {
            List<?> parts = (List<?>) goal;
            if (parts.get(0).equals("&")) {
                return intuitionistic(row, parts.get(1)) && intuitionistic(row, parts.get(2));
            }
            if (parts.get(0).equals("-")) {
                return intuitionistic(with(row, null, parts.get(1)), parts.get(2));
            }
            if (intuitionistic(row, parts.get(1)) || intuitionistic(row, parts.get(2))) {
                return true;
            }
        }
        for (Object f : row) {
            if (f instanceof List && ((List<?>) f).get(0).equals("-") && ((List<?>) f).get(1) instanceof List) {
                List<?> inner = (List<?>) ((List<?>) f).get(1);
                Object b = ((List<?>) f).get(2);
                Object turned = List.of("-", inner.get(2), b);
                if (intuitionistic(with(row, f, turned), inner) && intuitionistic(with(row, f, b), goal)) {
                    return true;
                }
            }
        }
        return false;
    }

    private static Set<Object> with(Set<Object> row, Object without, Object... added) {
        Set<Object> result = new HashSet<>(row);
        if (without != null) {
            result.remove(without);
        }
        Collections.addAll(result, added);
        return result;
    }

    /** A formula as a text or a list, products being meets and arrows alike. */
    Object tree(int formula) {
        switch (kind(formula)) {
            case 'v':
                return "v" + first(formula);
            case '0':
            case '1':
                return String.valueOf(kind(formula));
            case '*':
            case '&':
                return List.of("&", tree(first(formula)), tree(second(formula)));
            case '|':
                return List.of("|", tree(first(formula)), tree(second(formula)));
            case '<':
                return List.of("-", tree(first(formula)), tree(second(formula)));
            default:
                return List.of("-", tree(second(formula)), tree(first(formula)));
        }
    }
}
