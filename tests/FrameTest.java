/** Promises 31 to 39: frames of worlds, and four values. */
public final class FrameTest {
    private static final Class<IndexOutOfBoundsException> INDEX = IndexOutOfBoundsException.class;
    private static final Class<IllegalArgumentException> ARGUMENT = IllegalArgumentException.class;
    private static final Class<IllegalStateException> STATE = IllegalStateException.class;

    public static void main(String[] args) {
        worlds();
        order();
        having();
        holding();
        always();
        clearing();
        four();
        compared();
        Check.end("FrameTest");
    }

    private static void worlds() {
        Residuary x = new Residuary();
        for (int i = 0; i < 5; i++) {
            Check.same("a world", x.world(), i);
        }
        Check.fails("a sixth", STATE, () -> x.world());
        Check.same("none was added", x.clearFrame(), 5);
        Check.same("a world again", x.world(), 0);
    }

    private static void order() {
        Residuary x = new Residuary();
        for (int i = 0; i < 5; i++) {
            x.world();
        }
        Check.same("a pair", x.above(0, 1), 6);
        Check.same("the same again", x.above(0, 1), 6);
        Check.same("a pair apart", x.above(2, 3), 7);
        Check.same("both joined", x.above(1, 2), 11);
        Check.same("the last one", x.above(3, 4), 15);
        Check.same("all there", x.above(0, 4), 15);
        Check.fails("itself", ARGUMENT, () -> x.above(1, 1));
        Check.fails("a lesser one", ARGUMENT, () -> x.above(4, 3));
        Check.fails("no world", INDEX, () -> x.above(0, 5));
        Check.fails("no world", INDEX, () -> x.above(-1, 2));
        Check.fails("no world first", INDEX, () -> x.above(5, 0));
    }

    private static void having() {
        Residuary x = new Residuary();
        for (int i = 0; i < 4; i++) {
            x.world();
        }
        x.above(0, 1);
        x.above(1, 2);
        Check.same("those above", x.has(1, 3), 2);
        Check.same("all of them", x.has(0, 3), 3);
        Check.same("again", x.has(2, 3), 3);
        Check.same("another variable", x.has(2, 0), 1);
        Check.same("a world apart", x.has(3, 0), 2);
        x.above(2, 3);
        int v3 = x.formula('v', 3, 0);
        Check.isTrue("put above later", x.holds(3, v3));
        Check.same("all four", x.has(0, 3), 4);
        Check.fails("no world", INDEX, () -> x.has(4, 9));
        Check.fails("no variable", ARGUMENT, () -> x.has(0, 4));
        Check.fails("no variable", ARGUMENT, () -> x.has(0, -1));
    }

    private static void holding() {
        Residuary x = new Residuary();
        x.world();
        x.world();
        x.world();
        x.above(0, 1);
        x.above(0, 2);
        x.has(1, 0);
        x.has(2, 1);
        Build.all(x, "v0 v1 0 1 &0,1 *0,3 |0,1 <0,1 >1,0 <0,2 >2,1 |9,10 <3,6 >3,2");
        String[] due = {".x.", "..x", "...", "xxx", "...", ".x.", ".xx", "..x", "..x", "..x", ".x.", ".xx", ".xx", "xxx"};
        for (int formula = 0; formula < due.length; formula++) {
            for (int world = 0; world < 3; world++) {
                Check.same("world " + world + " has " + formula, x.holds(world, formula), due[formula].charAt(world) == 'x');
            }
        }
        Check.fails("no world", INDEX, () -> x.holds(3, 0));
        Check.fails("no formula", INDEX, () -> x.holds(0, 14));
        Check.fails("no formula", INDEX, () -> x.holds(0, -1));
    }

    private static void always() {
        Residuary x = new Residuary();
        Build.all(x, "v0 0 <0,1 |0,2 <2,1 |2,4 v1 <0,6 <6,0 |7,8 <0,0 <3,1 <11,1");
        Check.isTrue("without worlds", x.holdsAlways(0));
        x.world();
        x.world();
        Check.isTrue("v0 or not, in worlds apart", x.holdsAlways(3));
        Check.isFalse("v0", x.holdsAlways(0));
        x.above(0, 1);
        Check.isFalse("v0 or not, in a chain", x.holdsAlways(3));
        Check.isTrue("not or not not, in a chain", x.holdsAlways(5));
        Check.isTrue("one leads to the other, in a chain", x.holdsAlways(9));
        x.world();
        x.above(0, 2);
        Check.isFalse("not or not not, in a fork", x.holdsAlways(5));
        Check.isFalse("one leads to the other, in a fork", x.holdsAlways(9));
        Check.isTrue("itself", x.holdsAlways(10));
        Check.isTrue("twice denied", x.holdsAlways(12));
        x.has(0, 0);
        Check.isFalse("whatever is told", x.holdsAlways(0));
        Check.isTrue("what is told stays", x.holds(2, 0));
        x.clearFrame();
        x.world();
        x.world();
        x.world();
        x.above(1, 2);
        Check.isFalse("v0 or not, in a chain apart", x.holdsAlways(3));
        Check.isTrue("not or not not, in worlds and a chain", x.holdsAlways(5));
        Check.fails("no formula", INDEX, () -> x.holdsAlways(13));
    }

    private static void clearing() {
        Residuary x = new Residuary();
        int v0 = x.formula('v', 0, 0);
        x.world();
        x.world();
        x.above(0, 1);
        x.has(0, 0);
        Check.same("how many there were", x.clearFrame(), 2);
        Check.same("none any more", x.clearFrame(), 0);
        Check.fails("no world", INDEX, () -> x.holds(0, v0));
        x.world();
        x.world();
        Check.isFalse("nothing told", x.holds(1, v0));
        Check.same("no order", x.has(0, 0), 1);
        Check.same("just the pairs with itself, and one", x.above(0, 1), 3);
    }

    private static void four() {
        Residuary x = new Residuary();
        Build.all(x, "v0 v1 &0,1 *0,1 |0,1 <0,1 >0,1 0 1");
        // Rows are v0 as n, f, t, b; in each, v1 likewise.
        String[] meet = {"nfnf", "ffff", "nftb", "ffbb"};
        String[] join = {"nntt", "nftb", "tttt", "tbtb"};
        String letters = "nftb";
        for (int i = 0; i < 4; i++) {
            for (int j = 0; j < 4; j++) {
                char p = letters.charAt(i);
                char q = letters.charAt(j);
                x.four(0, p);
                x.four(1, q);
                String what = p + " and " + q;
                Check.same("v0 " + what, x.fourOf(0), p);
                Check.same("v1 " + what, x.fourOf(1), q);
                Check.same("meet " + what, x.fourOf(2), meet[i].charAt(j));
                Check.same("product " + what, x.fourOf(3), meet[i].charAt(j));
                Check.same("join " + what, x.fourOf(4), join[i].charAt(j));
                Check.same("under " + what, x.fourOf(5), p == 't' || p == 'b' ? q : 't');
                Check.same("over " + what, x.fourOf(6), q == 't' || q == 'b' ? p : 't');
            }
        }
        Check.same("0", x.fourOf(7), 'f');
        Check.same("1", x.fourOf(8), 't');
        Check.same("the one before", x.four(1, 'n'), 'b');
        Check.same("the one before", x.four(1, 'f'), 'n');
        Check.same("at first", x.four(2, 'f'), 'n');
        Check.fails("no value", ARGUMENT, () -> x.four(0, 'x'));
        Check.fails("no variable", ARGUMENT, () -> x.four(4, 'n'));
        Check.fails("no variable", ARGUMENT, () -> x.four(-1, 'n'));
        Check.fails("no formula", INDEX, () -> x.fourOf(9));
        Check.fails("isFour, no formula", INDEX, () -> x.isFour(9));
        Check.same("a throw changed nothing", x.fourOf(0), 'b');
        x.formula('<', 0, 0);
        Build.all(x, "v0 0 <0,7 |0,10 &0,10 <12,1 |5,0");
        Check.isTrue("itself", x.isFour(9));
        Check.isTrue("v0 or not", x.isFour(11));
        Check.isTrue("v0 and not is never true", x.isFour(13));
        Check.isTrue("v0, or v1 if so", x.isFour(14));
        Check.isFalse("v0, told as both", x.isFour(0));
        int v3 = x.formula('v', 3, 0);
        Check.isFalse("the last variable denied", x.isFour(x.formula('<', v3, 7)));
        Check.isTrue("1", x.isFour(8));
        Check.isFalse("0", x.isFour(7));
    }

    /** Against worlds and values that are gone through one by one. */
    private static void compared() {
        Draw draw = new Draw(11);
        for (int round = 0; round < 300; round++) {
            Residuary x = new Residuary();
            PlainSearch plain = new PlainSearch();
            for (int i = 0; i < 3; i++) {
                plain.add(x, i == 2 ? draw.of("01v") : 'v', i, 0);
            }
            for (int i = 3; i < 10; i++) {
                plain.add(x, draw.of("&|*<>"), draw.below(x.formulas()), draw.below(x.formulas()));
            }
            int worlds = draw.below(5);
            boolean[][] order = new boolean[worlds][worlds];
            boolean[][] has = new boolean[worlds][4];
            for (int i = 0; i < worlds; i++) {
                x.world();
                order[i][i] = true;
            }
            for (int i = draw.below(5); i > 0 && worlds > 1; i--) {
                int below = draw.below(worlds - 1);
                int above = below + 1 + draw.below(worlds - below - 1);
                order[below][above] = true;
                close(order);
                Check.same("pairs", x.above(below, above), pairs(order));
                if (draw.below(2) == 0) {
                    has[below][draw.below(3)] = true;
                }
            }
            for (int i = 0; i < worlds; i++) {
                for (int v = 0; v < 3; v++) {
                    if (has[i][v]) {
                        x.has(i, v);
                    }
                }
            }
            int formula = x.formulas() - 1;
            for (int i = 0; i < worlds; i++) {
                Check.same("round " + round + ", holds", x.holds(i, formula), forces(plain, order, spread(order, has), i, formula));
            }
            Check.same("round " + round + ", holdsAlways", x.holdsAlways(formula), always(plain, order, formula));
        }
    }

    private static void close(boolean[][] order) {
        for (int k = 0; k < order.length; k++) {
            for (int i = 0; i < order.length; i++) {
                for (int j = 0; j < order.length; j++) {
                    order[i][j] |= order[i][k] && order[k][j];
                }
            }
        }
    }

    private static int pairs(boolean[][] order) {
        int result = 0;
        for (boolean[] row : order) {
            for (boolean is : row) {
                result += is ? 1 : 0;
            }
        }
        return result;
    }

    private static boolean[][] spread(boolean[][] order, boolean[][] has) {
        boolean[][] result = new boolean[has.length][4];
        for (int i = 0; i < has.length; i++) {
            for (int j = 0; j < has.length; j++) {
                for (int v = 0; v < 4 && order[i][j]; v++) {
                    result[j][v] |= has[i][v];
                }
            }
        }
        return result;
    }

    private static boolean forces(PlainSearch plain, boolean[][] order, boolean[][] has, int world, int formula) {
        int p = plain.first(formula);
        int q = plain.second(formula);
        switch (plain.kind(formula)) {
            case 'v':
                return has[world][p];
            case '0':
                return false;
            case '1':
                return true;
            case '&':
            case '*':
                return forces(plain, order, has, world, p) && forces(plain, order, has, world, q);
            case '|':
                return forces(plain, order, has, world, p) || forces(plain, order, has, world, q);
            default:
                boolean isOver = plain.kind(formula) == '>';
                for (int i = 0; i < order.length; i++) {
                    if (order[world][i] && forces(plain, order, has, i, isOver ? q : p)
                            && !forces(plain, order, has, i, isOver ? p : q)) {
                        return false;
                    }
                }
                return true;
        }
    }

    /** All that can be told, of three variables. */
    private static boolean always(PlainSearch plain, boolean[][] order, int formula) {
        int worlds = order.length;
        for (int choice = 0; choice < 1 << 3 * worlds; choice++) {
            boolean[][] has = new boolean[worlds][4];
            for (int i = 0; i < 3 * worlds; i++) {
                has[i / 3][i % 3] = (choice >> i & 1) != 0;
            }
            boolean[][] spread = spread(order, has);
            if (!java.util.Arrays.deepEquals(has, spread)) {
                continue;
            }
            for (int i = 0; i < worlds; i++) {
                if (!forces(plain, order, has, i, formula)) {
                    return false;
                }
            }
        }
        return true;
    }
}
