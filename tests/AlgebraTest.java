import java.util.NoSuchElementException;

/** Promises 1 to 18: algebras. */
public final class AlgebraTest {
    private static final Class<IndexOutOfBoundsException> INDEX = IndexOutOfBoundsException.class;
    private static final Class<IllegalArgumentException> ARGUMENT = IllegalArgumentException.class;
    private static final Class<IllegalStateException> STATE = IllegalStateException.class;
    private static final Class<UnsupportedOperationException> UNSUPPORTED = UnsupportedOperationException.class;
    private static final Class<ArithmeticException> ARITHMETIC = ArithmeticException.class;
    private static final Class<NoSuchElementException> ELEMENT = NoSuchElementException.class;

    public static void main(String[] args) {
        newObject();
        chains();
        tell();
        times();
        sum();
        ofFrame();
        right();
        make();
        below();
        laws();
        filters();
        alike();
        parts();
        closures();
        counts();
        compared();
        Check.end("AlgebraTest");
    }

    /** A chain of four elements that is right, and whose product does not commute: 1 2 is 1, 2 1 is 0, 2 2 is 2. */
    static int oneSided(Residuary x) {
        int a = x.chain('h', 4);
        x.tell(a, 1, 2, 1);
        x.tell(a, 2, 2, 2);
        return a;
    }

    /** The same with the sides turned: 2 1 is 1, 1 2 is 0. */
    static int otherSided(Residuary x) {
        int a = x.chain('h', 4);
        x.tell(a, 2, 1, 1);
        x.tell(a, 2, 2, 2);
        return a;
    }

    /** Worlds 1 and 2 above 0: the sets are none, 1, 2, both, all. */
    static int fork(Residuary x) {
        x.clearFrame();
        x.world();
        x.world();
        x.world();
        x.above(0, 1);
        x.above(0, 2);
        return x.ofFrame();
    }

    static Residuary full() {
        Residuary x = new Residuary();
        for (int i = 0; i < 12; i++) {
            Check.same("the number of a chain", x.chain('g', 2 + i % 7), i);
        }
        return x;
    }

    private static void newObject() {
        Residuary x = new Residuary();
        Check.same("formulas of a new object", x.formulas(), 0);
        Check.same("worlds of a new object", x.clearFrame(), 0);
        Check.same("sentence of a new object", x.clearSentence(), 0);
        Check.same("grade of a new object", x.grade(9, 'l'), 0);
        Check.same("four of a new object", x.four(3, 't'), 'n');
        Check.fails("elements of a new object", INDEX, () -> x.elements(0));
        Check.fails("say of a new object", INDEX, () -> x.say(0));
        Check.isTrue("isTrue of a new object", x.isTrue());
    }

    private static void chains() {
        Residuary x = new Residuary();
        Check.same("chain", x.chain('l', 5), 0);
        Check.same("chain", x.chain('g', 5), 1);
        Check.same("chain", x.chain('d', 5), 2);
        Check.same("chain", x.chain('h', 5), 3);
        for (int a = 0; a < 5; a++) {
            for (int b = 0; b < 5; b++) {
                Check.same("l " + a + b, x.make(0, '*', a, b), Math.max(0, a + b - 4));
                Check.same("g " + a + b, x.make(1, '*', a, b), Math.min(a, b));
                int drastic = a == 4 ? b : b == 4 ? a : 0;
                Check.same("d " + a + b, x.make(2, '*', a, b), drastic);
                Check.same("h " + a + b, x.make(3, '*', a, b), drastic);
                Check.same("order " + a + b, x.isBelow(3, a, b), a <= b);
            }
        }
        Check.same("least chain", x.chain('l', 2), 4);
        Check.same("greatest chain", x.elements(x.chain('d', 8)), 8);
        Check.fails("kind", ARGUMENT, () -> x.chain('x', 3));
        Check.fails("kind", ARGUMENT, () -> x.chain((char) 500, 3));
        Check.fails("too few", ARGUMENT, () -> x.chain('l', 1));
        Check.fails("too many", ARGUMENT, () -> x.chain('l', 9));
        Check.fails("negative", ARGUMENT, () -> x.chain('l', Integer.MIN_VALUE));
        Check.fails("elements", INDEX, () -> x.elements(6));
        Check.fails("elements", INDEX, () -> x.elements(-1));
        Residuary y = full();
        Check.fails("a thirteenth", STATE, () -> y.chain('g', 2));
        Check.fails("a thirteenth, argument first", ARGUMENT, () -> y.chain('g', 9));
        Check.same("elements of the last one", y.elements(11), 6);
        Check.fails("elements of none", INDEX, () -> y.elements(12));
    }

    private static void tell() {
        Residuary x = new Residuary();
        int a = oneSided(x);
        Check.same("tell what it was", x.tell(a, 2, 2, 2), 2);
        Check.same("tell in one order", x.make(a, '*', 1, 2), 1);
        Check.same("tell in one order, the other", x.make(a, '*', 2, 1), 0);
        int b = x.chain('l', 3);
        int c = x.times(b, x.chain('h', 2));
        Check.fails("tell not by hand", UNSUPPORTED, () -> x.tell(b, 1, 1, 1));
        Check.fails("tell made of one by hand", UNSUPPORTED, () -> x.tell(c, 1, 1, 1));
        Check.fails("tell no algebra", INDEX, () -> x.tell(9, 9, 9, 9));
        Check.fails("tell no element", ARGUMENT, () -> x.tell(b, 3, 1, 1));
        Check.fails("tell no element", ARGUMENT, () -> x.tell(a, 1, 4, 1));
        Check.fails("tell no element", ARGUMENT, () -> x.tell(a, 1, 1, 4));
        Check.fails("tell no element", ARGUMENT, () -> x.tell(a, -1, 1, 1));
        Check.same("a throw changed nothing", x.make(a, '*', 1, 1), 0);
        int h = x.chain('h', 3);
        int made = x.sum(h, x.chain('g', 2));
        Check.same("tell", x.tell(h, 2, 1, 0), 1);
        Check.isFalse("a unit no more", x.isRight(h));
        Check.isTrue("what was made stays", x.isRight(made));
        Check.same("tell", x.tell(h, 2, 1, 1), 0);
        Check.isTrue("a unit again", x.isRight(h));
    }

    private static void times() {
        Residuary x = new Residuary();
        int l3 = x.chain('l', 3);
        int g2 = x.chain('g', 2);
        int a = x.times(l3, g2);
        Check.same("its number", a, 2);
        Check.same("its elements", x.elements(a), 6);
        for (int i = 0; i < 6; i++) {
            for (int j = 0; j < 6; j++) {
                int product = Math.max(0, i / 2 + j / 2 - 2) * 2 + Math.min(i % 2, j % 2);
                Check.same("product of pairs", x.make(a, '*', i, j), product);
                Check.same("order of pairs", x.isBelow(a, i, j), i / 2 <= j / 2 && i % 2 <= j % 2);
            }
        }
        Check.fails("no algebra", INDEX, () -> x.times(0, 3));
        Check.fails("no algebra", INDEX, () -> x.times(3, 0));
        Check.fails("no algebra", INDEX, () -> x.times(-1, 0));
        Check.fails("9 elements", ARITHMETIC, () -> x.times(l3, l3));
        int g4 = x.chain('g', 4);
        Check.same("8 elements", x.elements(x.times(g4, g2)), 8);
        Residuary y = full();
        Check.fails("no room", STATE, () -> y.times(0, 0));
        Check.fails("too many first", ARITHMETIC, () -> y.times(1, 1));
        Check.fails("no algebra first", INDEX, () -> y.times(1, 12));
    }

    private static void sum() {
        Residuary x = new Residuary();
        int g2 = x.chain('g', 2);
        int square = x.times(g2, g2);
        int a = x.sum(square, x.chain('l', 3));
        Check.same("elements of a sum", x.elements(a), 6);
        Check.same("join of the lower part", x.make(a, '|', 1, 2), 3);
        Check.same("meet of the lower part", x.make(a, '&', 1, 2), 0);
        Check.same("product of the upper part", x.make(a, '*', 4, 4), 3);
        Check.same("product of either", x.make(a, '*', 4, 2), 2);
        Check.same("product of either", x.make(a, '*', 1, 4), 1);
        Check.isTrue("order of either", x.isBelow(a, 2, 3));
        Check.isFalse("order of either", x.isBelow(a, 3, 2));
        Check.isFalse("order of the lower part", x.isBelow(a, 1, 2));
        int h3 = x.chain('h', 3);
        x.tell(h3, 1, 1, 2);
        int odd = x.sum(h3, g2);
        int h4 = x.chain('h', 4);
        x.tell(h4, 1, 1, 2);
        x.tell(h4, 2, 2, 2);
        x.tell(h4, 1, 2, 1);
        Check.isFalse("not yet alike", x.areAlike(odd, h4));
        x.tell(h4, 2, 1, 1);
        Check.isTrue("what would be left out is the least of the second", x.areAlike(odd, h4));
        x.tell(h4, 1, 1, 0);
        Check.isFalse("not alike any more", x.areAlike(odd, h4));
        Check.fails("no algebra", INDEX, () -> x.sum(0, 9));
        Check.fails("no algebra", INDEX, () -> x.sum(9, 0));
        int g8 = x.chain('g', 8);
        Check.fails("9 elements", ARITHMETIC, () -> x.sum(g8, g2));
        Check.same("8 elements", x.elements(x.sum(x.chain('g', 7), g2)), 8);
        Residuary y = full();
        Check.fails("no room", STATE, () -> y.sum(0, 0));
        Check.fails("too many first", ARITHMETIC, () -> y.sum(5, 5));
        Check.fails("no algebra first", INDEX, () -> y.sum(12, 5));
    }

    private static void ofFrame() {
        Residuary x = new Residuary();
        Check.fails("no worlds", ELEMENT, () -> x.ofFrame());
        x.world();
        x.world();
        x.world();
        int a = x.ofFrame();
        Check.same("its number", a, 0);
        Check.same("sets of three worlds", x.elements(a), 8);
        Check.same("sizes ahead of numbers", x.make(a, '|', 1, 2), 4);
        Check.same("then numbers", x.make(a, '|', 1, 3), 5);
        Check.same("then numbers", x.make(a, '|', 2, 3), 6);
        Check.same("what both have", x.make(a, '*', 4, 6), 2);
        Check.isFalse("order of sets", x.isBelow(a, 3, 4));
        Check.isTrue("order of sets", x.isBelow(a, 3, 6));
        x.world();
        Check.fails("16 sets", ARITHMETIC, () -> x.ofFrame());
        int b = fork(x);
        Check.same("sets with all above", x.elements(b), 5);
        Check.same("join in the fork", x.make(b, '|', 1, 2), 3);
        x.clearFrame();
        Check.same("it stays", x.elements(b), 5);
        Residuary y = full();
        Check.fails("no worlds first", ELEMENT, () -> y.ofFrame());
        y.world();
        Check.fails("no room", STATE, () -> y.ofFrame());
        y.world();
        y.world();
        y.world();
        Check.fails("too many first", ARITHMETIC, () -> y.ofFrame());
    }

    private static void right() {
        Residuary x = new Residuary();
        int a = oneSided(x);
        Check.isTrue("right without commuting", x.isRight(a));
        x.tell(a, 2, 2, 1);
        Check.isFalse("not associative", x.isRight(a));
        int b = x.chain('h', 4);
        x.tell(b, 1, 1, 1);
        Check.isFalse("does not keep the order", x.isRight(b));
        int left = x.chain('h', 4);
        int right = x.chain('h', 4);
        for (int i = 1; i < 3; i++) {
            for (int j = 1; j < 3; j++) {
                x.tell(left, i, j, i);
                x.tell(right, i, j, j);
            }
        }
        Check.isFalse("keeps the order of the second ones alone", x.isRight(left));
        Check.isFalse("keeps the order of the first ones alone", x.isRight(right));
        int c = x.chain('h', 3);
        x.tell(c, 1, 2, 0);
        Check.isFalse("no unit behind", x.isRight(c));
        x.tell(c, 1, 2, 1);
        Check.isTrue("a unit", x.isRight(c));
        x.tell(c, 2, 1, 0);
        Check.isFalse("no unit ahead", x.isRight(c));
        Check.isFalse("made of one that is not", x.isRight(x.times(c, x.chain('g', 2))));
        Check.fails("no algebra", INDEX, () -> x.isRight(99));
        Check.isTrue("a fork", x.isRight(fork(x)));
    }

    private static void make() {
        Residuary x = new Residuary();
        int a = oneSided(x);
        int[][] under = {{3, 3, 3, 3}, {1, 3, 3, 3}, {1, 1, 3, 3}, {0, 1, 2, 3}};
        int[][] over = {{3, 2, 0, 0}, {3, 3, 1, 1}, {3, 3, 3, 2}, {3, 3, 3, 3}};
        for (int i = 0; i < 4; i++) {
            for (int j = 0; j < 4; j++) {
                Check.same(i + " under " + j, x.make(a, '<', i, j), under[i][j]);
                Check.same(i + " over " + j, x.make(a, '>', i, j), over[i][j]);
                Check.same(i + " meet " + j, x.make(a, '&', i, j), Math.min(i, j));
                Check.same(i + " join " + j, x.make(a, '|', i, j), Math.max(i, j));
            }
        }
        Check.fails("no algebra", INDEX, () -> x.make(1, '?', 9, 9));
        Check.fails("no letter", ARGUMENT, () -> x.make(a, 'v', 0, 0));
        Check.fails("no letter", ARGUMENT, () -> x.make(a, '1', 0, 0));
        Check.fails("no element", ARGUMENT, () -> x.make(a, '*', 4, 0));
        Check.fails("no element", ARGUMENT, () -> x.make(a, '*', 0, -1));
        x.tell(a, 2, 2, 1);
        Check.fails("not right", UNSUPPORTED, () -> x.make(a, '&', 1, 1));
        Check.fails("no element first", ARGUMENT, () -> x.make(a, '&', 4, 1));
    }

    private static void below() {
        Residuary x = new Residuary();
        int a = x.chain('h', 3);
        x.tell(a, 1, 1, 2);
        Check.isTrue("itself", x.isBelow(a, 1, 1));
        Check.isTrue("also if not right", x.isBelow(a, 0, 2));
        Check.isFalse("not above", x.isBelow(a, 2, 1));
        Check.fails("no algebra", INDEX, () -> x.isBelow(1, 9, 9));
        Check.fails("no element", ARGUMENT, () -> x.isBelow(a, 3, 0));
        Check.fails("no element", ARGUMENT, () -> x.isBelow(a, 0, -1));
    }

    private static void law(Residuary x, int algebra, String due) {
        String letters = "cipdnbo";
        StringBuilder got = new StringBuilder();
        for (int i = 0; i < letters.length(); i++) {
            if (x.keeps(algebra, letters.charAt(i))) {
                got.append(letters.charAt(i));
            }
        }
        Check.same("laws of " + algebra, got.toString(), due);
    }

    private static void laws() {
        Residuary x = new Residuary();
        law(x, x.chain('l', 3), "cpdno");
        law(x, x.chain('g', 3), "cipdo");
        law(x, x.chain('d', 4), "cpo");
        int g2 = x.chain('g', 2);
        law(x, g2, "cipdnbo");
        int square = x.times(g2, g2);
        law(x, square, "cipdnb");
        law(x, fork(x), "cid");
        law(x, oneSided(x), "po");
        // In 'p' both arrows are under: of the square below a chain, 1 under 2 and 2 under 1 do not join at the top.
        law(x, x.sum(square, g2), "cid");
        int bad = x.chain('h', 3);
        x.tell(bad, 1, 1, 2);
        Check.fails("no algebra", INDEX, () -> x.keeps(12, 'x'));
        Check.fails("no law first", ARGUMENT, () -> x.keeps(bad, 'x'));
        Check.fails("not right", UNSUPPORTED, () -> x.keeps(bad, 'o'));
    }

    private static void filter(Residuary x, int algebra, int all, int normal, boolean isSimple, boolean isOne) {
        Check.same("filters of " + algebra, x.filters(algebra, false), all);
        Check.same("normal filters of " + algebra, x.filters(algebra, true), normal);
        Check.same("simple " + algebra, x.isSimple(algebra), isSimple);
        Check.same("one " + algebra, x.isOne(algebra), isOne);
    }

    private static void filters() {
        Residuary x = new Residuary();
        int g2 = x.chain('g', 2);
        filter(x, g2, 2, 2, true, true);
        filter(x, x.chain('l', 8), 2, 2, true, true);
        filter(x, x.chain('g', 4), 4, 4, false, true);
        filter(x, x.times(g2, g2), 4, 4, false, false);
        filter(x, oneSided(x), 3, 2, true, true);
        filter(x, otherSided(x), 3, 2, true, true);
        filter(x, fork(x), 5, 5, false, true);
        int bad = x.chain('h', 3);
        x.tell(bad, 1, 1, 2);
        Check.fails("filters, no algebra", INDEX, () -> x.filters(99, true));
        Check.fails("isSimple, no algebra", INDEX, () -> x.isSimple(99));
        Check.fails("isOne, no algebra", INDEX, () -> x.isOne(-7));
        Check.fails("filters, not right", UNSUPPORTED, () -> x.filters(bad, false));
        Check.fails("isSimple, not right", UNSUPPORTED, () -> x.isSimple(bad));
        Check.fails("isOne, not right", UNSUPPORTED, () -> x.isOne(bad));
    }

    private static void alike() {
        Residuary x = new Residuary();
        int g2 = x.chain('g', 2);
        int l3 = x.chain('l', 3);
        int a = x.times(g2, l3);
        int b = x.times(l3, g2);
        Check.isTrue("pairs either way", x.areAlike(a, b));
        Check.isTrue("itself", x.areAlike(a, a));
        Check.isTrue("of three, both are 0", x.areAlike(l3, x.chain('d', 3)));
        Check.isFalse("another product", x.areAlike(l3, x.chain('g', 3)));
        Check.isFalse("another order", x.areAlike(x.chain('g', 4), x.times(g2, g2)));
        Check.isFalse("other elements", x.areAlike(g2, l3));
        int h = oneSided(x);
        int k = x.chain('h', 4);
        x.tell(k, 2, 1, 1);
        x.tell(k, 2, 2, 2);
        Check.isFalse("the other side", x.areAlike(h, k));
        x.tell(k, 2, 1, 0);
        x.tell(k, 1, 2, 1);
        Check.isTrue("the same side", x.areAlike(h, k));
        x.tell(k, 3, 3, 0);
        Check.isFalse("not right, not alike", x.areAlike(h, k));
        x.tell(h, 3, 3, 0);
        Check.isTrue("not right, alike", x.areAlike(h, k));
        Check.fails("no algebra", INDEX, () -> x.areAlike(0, 10));
        Check.fails("no algebra", INDEX, () -> x.areAlike(10, 0));
    }

    private static void parts() {
        Residuary x = new Residuary();
        int g2 = x.chain('g', 2);
        int g3 = x.chain('g', 3);
        int l3 = x.chain('l', 3);
        int square = x.times(g2, g2);
        int g4 = x.chain('g', 4);
        Check.isTrue("two of all", x.isPart(g2, l3));
        Check.isTrue("itself", x.isPart(square, square));
        Check.isTrue("each second one", x.isPart(l3, x.chain('l', 5)));
        Check.isFalse("none in the middle", x.isPart(l3, x.chain('l', 4)));
        Check.isTrue("the greatest ones", x.isPart(g3, g4));
        Check.isFalse("a greater one", x.isPart(g4, g3));
        Check.isFalse("arrows are not kept", x.isPart(g3, square));
        Check.isFalse("no chain", x.isPart(square, g4));
        Check.isTrue("a factor of its square", x.isPart(g2, square));
        Check.isFalse("the least one is not 0", x.isPart(l3, x.sum(g2, l3)));
        Check.isTrue("the least one is 0", x.isPart(l3, x.sum(l3, g2)));
        int one = oneSided(x);
        Check.isFalse("one side", x.isPart(g3, one));
        x.tell(one, 2, 2, 1);
        Check.fails("not right", UNSUPPORTED, () -> x.isPart(one, g2));
        Check.fails("not right", UNSUPPORTED, () -> x.isPart(g2, one));
        Check.fails("no algebra first", INDEX, () -> x.isPart(one, 12));
        Check.fails("no algebra", INDEX, () -> x.isPart(12, g2));
    }

    private static void closures() {
        Residuary x = new Residuary();
        int l5 = x.chain('l', 5);
        int g5 = x.chain('g', 5);
        int one = oneSided(x);
        Check.same("none", x.part(l5, 0), 17);
        Check.same("the middle", x.part(l5, 4), 21);
        Check.same("a quarter", x.part(l5, 2), 31);
        Check.same("of the lesser ones", x.part(g5, 6), 23);
        Check.same("over", x.part(one, 2), 15);
        Check.same("under", x.part(one, 4), 15);
        int g2 = x.chain('g', 2);
        int cube = x.times(x.times(g2, g2), g2);
        Check.same("meet and arrows", x.part(cube, 2 + 4), 255);
        Check.same("a complement", x.part(cube, 2), 1 + 2 + 64 + 128);
        int lattice = x.sum(x.times(g2, g2), g2);
        Check.same("a join", x.part(lattice, 2 + 4), 31);
        Check.same("no join", x.part(lattice, 2), 1 + 2 + 4 + 8 + 16);
        Check.fails("no algebra", INDEX, () -> x.part(12, 0));
        Check.fails("no element", ARGUMENT, () -> x.part(l5, 32));
        Check.fails("no element", ARGUMENT, () -> x.part(l5, -1));
        x.tell(one, 2, 2, 1);
        Check.fails("not right", UNSUPPORTED, () -> x.part(one, 0));
        Check.fails("no element first", ARGUMENT, () -> x.part(one, 16));
    }

    private static void counts() {
        Residuary x = new Residuary();
        int[] commuting = {1, 2, 6, 22};
        int[] all = {1, 2, 8, 44};
        for (int i = 2; i <= 5; i++) {
            Check.same("commuting products of " + i, x.count(i, true), commuting[i - 2]);
            Check.same("products of " + i, x.count(i, false), all[i - 2]);
        }
        Check.fails("too few", ARGUMENT, () -> x.count(1, true));
        Check.fails("too many", ARGUMENT, () -> x.count(6, false));
        Check.fails("no algebra is added", INDEX, () -> x.elements(0));
    }

    /** Maps and closures, all gone through one by one. */
    private static void compared() {
        Residuary x = new Residuary();
        x.chain('l', 3);
        x.chain('d', 4);
        x.chain('g', 2);
        oneSided(x);
        otherSided(x);
        x.times(2, 0);
        x.times(2, 1);
        x.sum(x.times(2, 2), 2);
        x.sum(2, 3);
        fork(x);
        x.sum(0, 3);
        for (int i = 0; i < 12; i++) {
            for (int j = 0; j < 12; j++) {
                boolean areSmall = x.elements(i) <= x.elements(j) && x.elements(j) <= 6;
                if (areSmall) {
                    Check.same(i + " a part of " + j, x.isPart(i, j), mapped(x, i, j, new int[x.elements(i)], 0, "&|*<>"));
                    Check.same(i + " alike " + j, x.areAlike(i, j),
                            x.elements(i) == x.elements(j) && mapped(x, i, j, new int[x.elements(i)], 0, "*"));
                }
            }
            for (int set = 0; set < 1 << x.elements(i); set++) {
                Check.same("the part of " + set + " in " + i, x.part(i, set), closed(x, i, set));
            }
        }
    }

    private static boolean mapped(Residuary x, int from, int into, int[] image, int at, String kinds) {
        if (at == image.length) {
            return isKept(x, from, into, image, kinds);
        }
        for (int target = 0; target < x.elements(into); target++) {
            boolean isFree = true;
            for (int i = 0; i < at; i++) {
                isFree &= image[i] != target;
            }
            image[at] = target;
            if (isFree && mapped(x, from, into, image, at + 1, kinds)) {
                return true;
            }
        }
        return false;
    }

    private static boolean isKept(Residuary x, int from, int into, int[] image, String kinds) {
        int top = image.length - 1;
        if (kinds.length() > 1 && (image[0] != 0 || image[top] != x.elements(into) - 1)) {
            return false;
        }
        for (int a = 0; a <= top; a++) {
            for (int b = 0; b <= top; b++) {
                if (x.isBelow(from, a, b) != x.isBelow(into, image[a], image[b])) {
                    return false;
                }
                for (char by : kinds.toCharArray()) {
                    if (image[x.make(from, by, a, b)] != x.make(into, by, image[a], image[b])) {
                        return false;
                    }
                }
            }
        }
        return true;
    }

    /** The meet of all sets that hold the elements and what any two of theirs make. */
    private static int closed(Residuary x, int algebra, int elements) {
        int n = x.elements(algebra);
        int result = (1 << n) - 1;
        for (int set = 0; set < 1 << n; set++) {
            boolean isClosed = (set & elements) == elements && (set & 1) != 0 && (set >> n - 1 & 1) != 0;
            for (int a = 0; a < n && isClosed; a++) {
                for (int b = 0; b < n && isClosed; b++) {
                    for (char by : "&|*<>".toCharArray()) {
                        isClosed &= (set >> a & 1) == 0 || (set >> b & 1) == 0 || (set >> x.make(algebra, by, a, b) & 1) != 0;
                    }
                }
            }
            if (isClosed) {
                result &= set;
            }
        }
        return result;
    }
}
