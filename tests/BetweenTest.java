/** Promises 40 to 43: between, consequence. */
public final class BetweenTest {
    private static final Class<IndexOutOfBoundsException> INDEX = IndexOutOfBoundsException.class;
    private static final Class<IllegalArgumentException> ARGUMENT = IllegalArgumentException.class;
    private static final Class<UnsupportedOperationException> UNSUPPORTED = UnsupportedOperationException.class;

    public static void main(String[] args) {
        between();
        follows();
        classes();
        exceptions();
        compared();
        Check.end("BetweenTest");
    }

    private static void between() {
        Residuary x = new Residuary();
        int l3 = x.chain('l', 3);
        // 4: v1 and v0; 5: v1 or v2; 6: v3 under v1; 7: v0 under v3, as v3 under 0.
        Build.all(x, "v0 v1 v2 v3 &1,0 |1,2 <3,1 *4,3 0");
        for (int v = 0; v < 3; v++) {
            Check.same("lower of v1 and v0", x.between(l3, 4, 5, false, v), v);
            Check.same("upper of v1 or v2", x.between(l3, 4, 5, true, v), v);
            Check.same("upper of v3 under v1", x.between(l3, 4, 6, true, v), v);
            Check.same("lower of v3 under v1", x.between(l3, 6, 4, false, v), 2);
            Check.same("upper of v1 and v0", x.between(l3, 6, 4, true, v), 0);
        }
        // 7 and 6 both have v1 and v3, numbered 0 and 1: values 7 are v1 as 1, v3 as 2.
        Check.same("lower, of two", x.between(l3, 7, 6, false, 7), 1);
        Check.same("lower, of two", x.between(l3, 7, 6, false, 5), 1);
        Check.same("upper, of two", x.between(l3, 7, 6, true, 6), 0);
        Check.same("upper, of two", x.between(l3, 7, 6, true, 3), 1);
        Check.fails("no values, of two", ARGUMENT, () -> x.between(l3, 7, 6, false, 9));
        Check.same("none in common, lower", x.between(l3, 0, 1, false, 0), 2);
        Check.same("none in common, upper", x.between(l3, 0, 1, true, 0), 0);
        Check.same("no variables", x.between(l3, 8, 8, false, 0), 0);
        Check.fails("no values, of none", ARGUMENT, () -> x.between(l3, 0, 1, false, 1));
        Check.fails("no values", ARGUMENT, () -> x.between(l3, 4, 5, true, 3));
        Check.fails("no values", ARGUMENT, () -> x.between(l3, 4, 5, true, -1));
        Check.isTrue("can lie", x.canLieBetween(l3, 4, 5));
        Check.isTrue("can lie, of two", x.canLieBetween(l3, 7, 6));
        Check.isFalse("can't lie", x.canLieBetween(l3, 6, 4));
        Check.isFalse("can't lie, none in common", x.canLieBetween(l3, 0, 1));
        Check.isTrue("0 lies below", x.canLieBetween(l3, 8, 0));
        Check.isFalse("above 0", x.canLieBetween(l3, 0, 8));
        int g2 = x.chain('g', 2);
        int square = x.times(g2, g2);
        // In the square, the first ones v0 as 1 and 2 join at 3.
        Check.same("a join of all", x.between(square, 0, 8, false, 0), 3);
        Check.same("a meet of all", x.between(square, 8, 0, true, 0), 0);
    }

    private static void follows() {
        Residuary x = new Residuary();
        int l3 = x.chain('l', 3);
        Build.all(x, "v0 v1 <0,1 *0,1 &0,1 0 |0,1 v3");
        Check.isTrue("detached", x.follows(l3, 4, 0, 2, 1));
        Check.isFalse("not with the middle", x.follows(l3, 6, 0, 2, 1));
        Check.isTrue("a product", x.follows(l3, 4, 0, 1, 3));
        Check.isFalse("no product with the middle", x.follows(l3, 6, 0, 1, 3));
        Check.isTrue("a meet with the middle", x.follows(l3, 6, 0, 1, 4));
        Check.isTrue("the other one", x.follows(l3, 6, 0, 1, 1));
        Check.isFalse("one alone", x.follows(l3, 6, 0, 0, 1));
        Check.isTrue("none designated", x.follows(l3, 0, 0, 0, 5));
        Check.isTrue("all designated", x.follows(l3, 7, 0, 0, 5));
        Check.isFalse("of 0", x.follows(l3, 4, 0, 0, 5));
        Check.isTrue("from 0", x.follows(l3, 4, 5, 5, 1));
        Check.isTrue("0 designated", x.follows(l3, 1, 0, 0, 5));
        Check.isFalse("the variable of the conclusion alone", x.follows(l3, 4, 0, 1, 7));
        Check.isTrue("both, with the one designated that is not the top", x.follows(l3, 2, 0, 0, 0));
        Check.isFalse("a join, with the middle alone", x.follows(l3, 2, 0, 0, 6));
    }

    private static void classes() {
        Residuary x = new Residuary();
        int g4 = x.chain('g', 4);
        int l4 = x.chain('l', 4);
        Check.same("all apart", x.classes(g4, 8), 4);
        Check.same("upper two alike", x.classes(g4, 12), 3);
        Check.same("upper three alike", x.classes(g4, 14), 2);
        Check.same("none designated", x.classes(g4, 0), 1);
        Check.same("all designated", x.classes(g4, 15), 1);
        Check.same("0 alone", x.classes(g4, 1), 2);
        Check.same("a simple one", x.classes(l4, 12), 4);
        Check.same("a simple one, none", x.classes(l4, 0), 1);
        int g2 = x.chain('g', 2);
        int square = x.times(g2, g2);
        Check.same("one side", x.classes(square, 4 + 8), 2);
        Check.same("the top", x.classes(square, 8), 4);
        Check.same("no side", x.classes(square, 2 + 4), 4);
        int one = AlgebraTest.oneSided(x);
        Check.same("the filter is not normal", x.classes(one, 12), 4);
    }

    private static void exceptions() {
        Residuary x = new Residuary();
        int l3 = x.chain('l', 3);
        int bad = x.chain('h', 3);
        x.tell(bad, 1, 1, 2);
        x.formula('v', 0, 0);
        Check.fails("between, no algebra", INDEX, () -> x.between(2, 0, 0, true, 9));
        Check.fails("between, no formula", INDEX, () -> x.between(l3, 1, 0, true, 9));
        Check.fails("between, no formula", INDEX, () -> x.between(l3, 0, 1, true, 9));
        Check.fails("between, no values first", ARGUMENT, () -> x.between(bad, 0, 0, true, 3));
        Check.fails("between, not right", UNSUPPORTED, () -> x.between(bad, 0, 0, true, 2));
        Check.fails("canLieBetween, no algebra", INDEX, () -> x.canLieBetween(2, 0, 0));
        Check.fails("canLieBetween, no formula", INDEX, () -> x.canLieBetween(bad, 1, 0));
        Check.fails("canLieBetween, no formula", INDEX, () -> x.canLieBetween(l3, 0, -1));
        Check.fails("canLieBetween, not right", UNSUPPORTED, () -> x.canLieBetween(bad, 0, 0));
        Check.fails("follows, no algebra", INDEX, () -> x.follows(2, 8, 0, 0, 0));
        Check.fails("follows, no formula", INDEX, () -> x.follows(l3, 8, 1, 0, 0));
        Check.fails("follows, no formula", INDEX, () -> x.follows(l3, 8, 0, 1, 0));
        Check.fails("follows, no formula", INDEX, () -> x.follows(l3, 8, 0, 0, 1));
        Check.fails("follows, no element first", ARGUMENT, () -> x.follows(bad, 8, 0, 0, 0));
        Check.fails("follows, no element", ARGUMENT, () -> x.follows(l3, -1, 0, 0, 0));
        Check.fails("follows, not right", UNSUPPORTED, () -> x.follows(bad, 7, 0, 0, 0));
        Check.fails("classes, no algebra", INDEX, () -> x.classes(-1, 8));
        Check.fails("classes, no element first", ARGUMENT, () -> x.classes(bad, 8));
        Check.fails("classes, no element", ARGUMENT, () -> x.classes(l3, -8));
        Check.fails("classes, not right", UNSUPPORTED, () -> x.classes(bad, 4));
    }

    /** Against values that are gone through one by one, and all ways to part elements. */
    private static void compared() {
        Draw draw = new Draw(5);
        for (int round = 0; round < 60; round++) {
            Residuary x = new Residuary();
            PlainSearch plain = new PlainSearch();
            AlgebraTest.oneSided(x);
            x.chain(draw.of("lgd"), 2 + draw.below(2));
            x.chain('g', 2);
            x.sum(2, 0);
            x.times(2, 2);
            x.sum(4, 1);
            AlgebraTest.fork(x);
            for (int i = 0; i < 3; i++) {
                plain.add(x, i == 2 ? draw.of("01v") : 'v', i, 0);
            }
            for (int i = 3; i < 9; i++) {
                plain.add(x, draw.of("&|*<>"), draw.below(x.formulas()), draw.below(x.formulas()));
            }
            int last = x.formulas() - 1;
            for (int algebra = 0; algebra < 7; algebra++) {
                compare(x, plain, algebra, draw.below(last), last, draw);
                int set = draw.below(1 << x.elements(algebra));
                Check.same("classes", x.classes(algebra, set), fewestClasses(x, algebra, set));
            }
        }
    }

    private static void compare(Residuary x, PlainSearch plain, int algebra, int formula, int other, Draw draw) {
        int n = x.elements(algebra);
        int common = FormulaTest.variables(plain, formula) & FormulaTest.variables(plain, other);
        int choices = (int) Math.pow(n, Integer.bitCount(common));
        boolean canLie = true;
        for (int values = 0; values < choices; values++) {
            int lower = 0;
            int upper = n - 1;
            for (int all = 0; all < n * n * n; all++) {
                if (common(all, n, common) == values) {
                    lower = x.make(algebra, '|', lower, FormulaTest.plainValue(x, plain, algebra, formula, all));
                    upper = x.make(algebra, '&', upper, FormulaTest.plainValue(x, plain, algebra, other, all));
                }
            }
            Check.same("lower", x.between(algebra, formula, other, false, values), lower);
            Check.same("upper", x.between(algebra, formula, other, true, values), upper);
            canLie &= x.isBelow(algebra, lower, upper);
        }
        Check.same("canLieBetween", x.canLieBetween(algebra, formula, other), canLie);
        int designated = draw.below(1 << n);
        int third = draw.below(x.formulas());
        boolean follows = true;
        for (int all = 0; all < n * n * n; all++) {
            boolean both = (designated >> FormulaTest.plainValue(x, plain, algebra, formula, all) & 1) != 0
                    && (designated >> FormulaTest.plainValue(x, plain, algebra, third, all) & 1) != 0;
            follows &= !both || (designated >> FormulaTest.plainValue(x, plain, algebra, other, all) & 1) != 0;
        }
        Check.same("follows", x.follows(algebra, designated, formula, third, other), follows);
    }

    private static int common(int all, int n, int common) {
        int result = 0;
        int factor = 1;
        int rest = all;
        for (int i = 0; i < 3; i++) {
            if ((common >> i & 1) != 0) {
                result += rest % n * factor;
                factor *= n;
            }
            rest /= n;
        }
        return result;
    }

    private static int fewestClasses(Residuary x, int algebra, int set) {
        int n = x.elements(algebra);
        int[] of = new int[n];
        int best = n;
        int all = (int) Math.pow(n, n);
        for (int choice = 0; choice < all && n <= 6; choice++) {
            int rest = choice;
            int used = 0;
            boolean isFirst = true;
            for (int i = 0; i < n; i++) {
                of[i] = rest % n;
                rest /= n;
                isFirst &= of[i] <= used;
                used = Math.max(used, of[i] + 1);
            }
            if (isFirst && used < best && isCongruence(x, algebra, set, of)) {
                best = used;
            }
        }
        return n <= 6 ? best : x.classes(algebra, set);
    }

    private static boolean isCongruence(Residuary x, int algebra, int set, int[] of) {
        for (int a = 0; a < of.length; a++) {
            for (int b = 0; b < a; b++) {
                if (of[a] != of[b]) {
                    continue;
                }
                if ((set >> a & 1) != (set >> b & 1)) {
                    return false;
                }
                for (char by : "&|*<>".toCharArray()) {
                    for (int c = 0; c < of.length; c++) {
                        if (of[x.make(algebra, by, a, c)] != of[x.make(algebra, by, b, c)]
                                || of[x.make(algebra, by, c, a)] != of[x.make(algebra, by, c, b)]) {
                            return false;
                        }
                    }
                }
            }
        }
        return true;
    }
}
