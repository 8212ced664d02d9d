import java.util.NoSuchElementException;

/** The edges of promises 1 to 18 and of what the terms say on algebras. */
final class AlgebraEdges {
    private static final Class<IndexOutOfBoundsException> INDEX = IndexOutOfBoundsException.class;
    private static final Class<IllegalArgumentException> ARGUMENT = IllegalArgumentException.class;
    private static final Class<IllegalStateException> STATE = IllegalStateException.class;
    private static final Class<UnsupportedOperationException> UNSUPPORTED = UnsupportedOperationException.class;
    private static final Class<ArithmeticException> ARITHMETIC = ArithmeticException.class;
    private static final Class<NoSuchElementException> ELEMENT = NoSuchElementException.class;
    private static final int[] NONE_OF_ONE = {-1, 1, 12, 8, Integer.MAX_VALUE, Integer.MIN_VALUE};

    static void all(Sentences s) {
        newObject(s);
        chain(s);
        chainTerms(s);
        tell(s);
        times(s);
        sum(s);
        ofFrame(s);
        elementsAndRight(s);
        rightTerms(s);
        make(s);
        isBelow(s);
        keeps(s);
        laws(s);
        filters(s);
        filterTerms(s);
        areAlike(s);
        isPart(s);
        part(s);
        count(s);
    }

    /** A new object with a chain of three elements by hand, number 0. */
    static Residuary byHand() {
        Residuary x = new Residuary();
        x.chain('h', 3);
        return x;
    }

    /** A new object with one by hand that is not right, number 0: the middle one's square is the greatest one. */
    static Residuary notRight() {
        Residuary x = byHand();
        x.tell(0, 1, 1, 2);
        return x;
    }

    /** A new object with just one chain of three elements, number 0. */
    static Residuary oneChain() {
        Residuary x = new Residuary();
        x.chain('l', 3);
        return x;
    }

    static void fill(Residuary x) {
        for (int i = 0; i < 12; i++) {
            x.chain('g', 2 + i % 3);
        }
    }

    private static void newObject(Sentences s) {
        s.says(1, "Creates a registry without algebras, formulas, worlds and words.", () -> {
            Residuary x = new Residuary();
            Check.fails("no algebra", INDEX, () -> x.elements(0));
            Check.same("no formula", x.formulas(), 0);
            Check.fails("no formula", INDEX, () -> x.length(0));
            Check.same("no word said", x.clearSentence(), 0);
            Check.fails("no word", INDEX, () -> x.say(0));
            Check.fails("no second word ahead of a first one", INDEX, () -> x.word(1, 0));
            Check.fails("no world", INDEX, () -> x.has(0, 0));
            Check.same("no worlds", x.clearFrame(), 0);
            Check.same("the first chain", x.chain('l', 2), 0);
            Check.same("the first formula", x.formula('v', 0, 0), 0);
            Check.same("the first world", x.world(), 0);
            Check.same("the first word", x.word(0, 0), 1);
            Check.same("the first rule", x.rule(0, -1, 0, 0), 1);
        });
    }

    private static void chain(Sentences s) {
        s.says(2, "Adds a chain.", () -> {
            Residuary x = new Residuary();
            for (int i = 0; i < 12; i++) {
                Check.same("its number", x.chain("lgdh".charAt(i % 4), 2 + i % 7), i);
                Check.same("its elements", x.elements(i), 2 + i % 7);
            }
        });
        s.given(2, "kind", () -> {
            Residuary x = new Residuary();
            for (char kind : "lgdh".toCharArray()) {
                x.chain(kind, 2);
            }
            for (char kind : new char[] {'a', 'i', 'L', '0', 0, 'l' + 256, Character.MAX_VALUE}) {
                Check.fails("kind " + (int) kind, ARGUMENT, () -> x.chain(kind, 2));
            }
            Check.same("four were added", x.chain('g', 2), 4);
        });
        s.given(2, "elements", () -> {
            Residuary x = new Residuary();
            for (int i = 2; i <= 8; i++) {
                Check.same("elements", x.elements(x.chain('d', i)), i);
            }
        });
        s.thrown(2, ARGUMENT, () -> {
            for (int elements : new int[] {1, 9, 0, -2, Integer.MAX_VALUE, Integer.MIN_VALUE}) {
                for (char kind : "lgdh".toCharArray()) {
                    Portrait.isLeft(elements + " elements", ARGUMENT, x -> x.chain('l', 3), x -> x.chain(kind, elements));
                }
            }
            Portrait.isLeft("no kind", ARGUMENT, x -> x.chain('l', 3), x -> x.chain('p', 2));
        });
        s.thrown(2, STATE, () -> {
            for (char kind : "lgdh".toCharArray()) {
                Portrait.isLeft("a thirteenth, " + kind, STATE, AlgebraEdges::fill, x -> x.chain(kind, 2));
            }
            Residuary x = new Residuary();
            fill(x);
            Check.fails("a letter out of range is told first", ARGUMENT, () -> x.chain('x', 2));
            Check.fails("a number out of range is told first", ARGUMENT, () -> x.chain('g', 9));
        });
        s.term("At most 12 algebras are numbered from 0, each of 2 to 8 elements, numbered from 0, with an order and a product.", () -> {
            Residuary x = new Residuary();
            fill(x);
            Check.same("elements of the first one", x.elements(0), 2);
            Check.same("elements of the twelfth one", x.elements(11), 4);
            Check.fails("no thirteenth one", INDEX, () -> x.elements(12));
            Check.isTrue("the first element", x.isBelow(11, 0, 3));
            Check.fails("none beyond the last one", ARGUMENT, () -> x.isBelow(11, 0, 4));
            Check.same("a product", x.make(11, '*', 3, 3), 3);
        });
    }

    private static void chainTerms(Sentences s) {
        s.term("Chains are ordered by numbers.", () -> {
            Residuary x = new Residuary();
            for (char kind : "lgdh".toCharArray()) {
                int a = x.chain(kind, 8);
                for (int one = 0; one < 8; one++) {
                    for (int other = 0; other < 8; other++) {
                        Check.same(one + " below " + other, x.isBelow(a, one, other), one <= other);
                    }
                }
            }
        });
        s.term("Of n elements, with the greatest t: 'l': a b is a plus b less t, at least 0;", () -> {
            for (int n = 2; n <= 8; n++) {
                Residuary x = new Residuary();
                x.chain('l', n);
                for (int a = 0; a < n; a++) {
                    Check.same("just 0", x.make(0, '*', a, n - 1 - a), 0);
                    Check.same("less than 0 is 0, too", x.make(0, '*', a, Math.max(0, n - 2 - a)), 0);
                    Check.same("with the greatest", x.make(0, '*', a, n - 1), a);
                    if (a > 0) {
                        Check.same("just 1", x.make(0, '*', a, n - a), 1);
                    }
                }
            }
        });
        s.term("'g': the lesser one;", () -> {
            Residuary x = new Residuary();
            x.chain('g', 8);
            Check.same("with 0", x.make(0, '*', 7, 0), 0);
            Check.same("the same", x.make(0, '*', 4, 4), 4);
            Check.same("lesser ahead", x.make(0, '*', 5, 6), 5);
            Check.same("lesser behind", x.make(0, '*', 6, 5), 5);
        });
        s.term("'d': 0, but for t as one of them.", () -> {
            Residuary x = new Residuary();
            x.chain('d', 8);
            Check.same("the two below t", x.make(0, '*', 6, 6), 0);
            Check.same("t ahead", x.make(0, '*', 7, 6), 6);
            Check.same("t behind", x.make(0, '*', 6, 7), 6);
            Check.same("t twice", x.make(0, '*', 7, 7), 7);
            x.chain('d', 2);
            Check.same("t twice, of two elements", x.make(1, '*', 1, 1), 1);
            Check.same("0 twice, of two elements", x.make(1, '*', 0, 0), 0);
        });
        s.term("By hand, 'h', it is at first as 'd', and each product can be told, of two elements in one order alone;", () -> {
            Residuary x = new Residuary();
            x.chain('d', 8);
            x.chain('h', 8);
            Check.isTrue("as 'd'", x.areAlike(0, 1));
            for (int a = 0; a < 8; a++) {
                for (int b = 0; b < 8; b++) {
                    Check.same(a + " " + b + " as 'd'", x.tell(1, a, b, x.make(0, '*', a, b)), x.make(0, '*', a, b));
                }
            }
            Check.same("was 0", x.tell(1, 5, 6, 3), 0);
            Check.same("the other order is still 0", x.tell(1, 6, 5, 2), 0);
            Check.same("told in one order", x.tell(1, 5, 6, 0), 3);
            Check.same("told in the other order", x.tell(1, 6, 5, 0), 2);
        });
        s.term("algebras that were made of it stay as they were;", () -> {
            Residuary x = byHand();
            x.chain('g', 2);
            x.times(0, 1);
            x.sum(0, 1);
            x.sum(1, 0);
            x.tell(0, 1, 1, 1);
            x.tell(0, 2, 2, 0);
            Check.same("in pairs, the middle one's square", x.make(2, '*', 3, 3), 1);
            Check.same("below, the middle one's square", x.make(3, '*', 1, 1), 0);
            Check.same("above, the middle one's square", x.make(4, '*', 2, 2), 1);
        });
        s.term("the order of an algebra by hand stays that of a chain.", () -> {
            Residuary x = notRight();
            x.tell(0, 2, 2, 0);
            Check.isTrue("0 below 1", x.isBelow(0, 0, 1));
            Check.isTrue("1 below 2", x.isBelow(0, 1, 2));
            Check.isFalse("2 not below 1", x.isBelow(0, 2, 1));
        });
    }

    private static void tell(Sentences s) {
        s.says(3, "Tells a product of an algebra by hand.", () -> {
            Residuary x = byHand();
            Check.same("the last one with the last one", x.tell(0, 2, 2, 2), 2);
            Check.same("what it was", x.tell(0, 1, 1, 1), 0);
            Check.same("what it made", x.make(0, '*', 1, 1), 1);
            Check.same("what it was then", x.tell(0, 1, 1, 0), 1);
        });
        s.given(3, "other", () -> {
            Residuary x = byHand();
            Check.same("another one", x.tell(0, 0, 2, 1), 0);
            Check.same("the same", x.tell(0, 0, 0, 1), 0);
            Check.same("told", x.tell(0, 0, 2, 0), 1);
            Check.same("told", x.tell(0, 0, 0, 0), 1);
        });
        s.given(3, "product", () -> {
            Residuary x = byHand();
            for (int product = 0; product < 3; product++) {
                x.tell(0, 1, 1, product);
                Check.same("what they make", x.tell(0, 1, 1, product), product);
            }
        });
        s.thrown(3, INDEX, () -> {
            for (int algebra : NONE_OF_ONE) {
                Portrait.isLeft("algebra " + algebra, INDEX, x -> x.chain('h', 3), x -> x.tell(algebra, 1, 1, 1));
                Check.fails("ahead of elements out of range", INDEX, () -> byHand().tell(algebra, 9, 9, 9));
            }
        });
        s.thrown(3, ARGUMENT, () -> {
            for (int element : new int[] {-1, 3, 8, Integer.MAX_VALUE, Integer.MIN_VALUE}) {
                Portrait.isLeft("one " + element, ARGUMENT, x -> x.chain('h', 3), x -> x.tell(0, element, 1, 1));
                Portrait.isLeft("other " + element, ARGUMENT, x -> x.chain('h', 3), x -> x.tell(0, 1, element, 1));
                Portrait.isLeft("product " + element, ARGUMENT, x -> x.chain('h', 3), x -> x.tell(0, 1, 1, element));
            }
            Residuary x = byHand();
            Check.same("the least and the greatest ones", x.tell(0, 0, 2, 2), 0);
            Check.same("the greatest and the least ones", x.tell(0, 2, 0, 0), 0);
        });
        s.thrown(3, UNSUPPORTED, () -> {
            for (char kind : "lgd".toCharArray()) {
                Portrait.isLeft("not by hand, " + kind, UNSUPPORTED, x -> x.chain(kind, 3), x -> x.tell(0, 1, 1, 1));
            }
            Residuary x = byHand();
            x.chain('h', 2);
            x.world();
            int pairs = x.times(0, 1);
            int sum = x.sum(0, 1);
            int sets = x.ofFrame();
            Check.fails("pairs of ones by hand", UNSUPPORTED, () -> x.tell(pairs, 1, 1, 1));
            Check.fails("a sum of ones by hand", UNSUPPORTED, () -> x.tell(sum, 1, 1, 1));
            Check.fails("of a frame", UNSUPPORTED, () -> x.tell(sets, 1, 1, 1));
            Check.fails("an element out of range is told first", ARGUMENT, () -> x.tell(sets, 2, 1, 1));
            Check.fails("a product out of range is told first", ARGUMENT, () -> x.tell(sets, 1, 1, 2));
        });
    }

    private static void times(Sentences s) {
        s.says(4, "Adds the product of two algebras.", () -> {
            Residuary x = oneChain();
            x.chain('g', 2);
            Check.same("its number", x.times(0, 1), 2);
            Check.same("its number", x.times(1, 0), 3);
            Check.same("with itself", x.times(1, 1), 4);
            Check.same("its elements", x.elements(4), 4);
        });
        s.thrown(4, INDEX, () -> {
            for (int algebra : NONE_OF_ONE) {
                Portrait.isLeft("first " + algebra, INDEX, x -> x.chain('g', 2), x -> x.times(algebra, 0));
                Portrait.isLeft("second " + algebra, INDEX, x -> x.chain('g', 2), x -> x.times(0, algebra));
            }
        });
        s.thrown(4, ARITHMETIC, () -> {
            Residuary x = new Residuary();
            for (int i = 2; i <= 8; i++) {
                x.chain('g', i);
            }
            Check.same("8 elements", x.elements(x.times(2, 0)), 8);
            Check.same("8 elements", x.elements(x.times(0, 2)), 8);
            Check.fails("9 elements", ARITHMETIC, () -> x.times(1, 1));
            Check.fails("10 elements", ARITHMETIC, () -> x.times(0, 3));
            Check.fails("16 elements", ARITHMETIC, () -> x.times(6, 0));
            Check.fails("64 elements", ARITHMETIC, () -> x.times(6, 6));
            Check.same("two were added", x.chain('g', 2), 9);
            Portrait.isLeft("9 elements", ARITHMETIC, y -> y.chain('g', 3), y -> y.times(0, 0));
        });
        s.thrown(4, STATE, () -> {
            Portrait.isLeft("a thirteenth", STATE, AlgebraEdges::fill, x -> x.times(0, 0));
            Residuary x = new Residuary();
            fill(x);
            Check.fails("no algebra is told first", INDEX, () -> x.times(0, 12));
            Check.fails("too many elements are told first", ARITHMETIC, () -> x.times(1, 1));
            Residuary y = oneChain();
            for (int i = 1; i < 11; i++) {
                y.chain('g', 2);
            }
            Check.same("a twelfth", y.times(1, 2), 11);
        });
        s.term("The product of two algebras has pairs, the number of the first one times the elements of the second one, plus the number"
                + " of the second one, all by pairs.", () -> {
            Residuary x = new Residuary();
            x.chain('g', 4);
            x.chain('l', 2);
            x.times(0, 1);
            Check.isTrue("(1,0) below (2,0)", x.isBelow(2, 2, 4));
            Check.isFalse("(0,1) not below (1,0)", x.isBelow(2, 1, 2));
            Check.same("(3,0) with (1,1)", x.make(2, '*', 6, 3), 2);
            Check.same("(3,0) or (1,1)", x.make(2, '|', 6, 3), 7);
            Check.same("(3,1) is a unit", x.make(2, '*', 7, 5), 5);
        });
    }

    private static void sum(Sentences s) {
        s.says(5, "Adds the sum of two algebras.", () -> {
            Residuary x = oneChain();
            x.chain('g', 2);
            Check.same("its number", x.sum(0, 1), 2);
            Check.same("its number", x.sum(1, 0), 3);
            Check.same("with itself", x.sum(0, 0), 4);
            Check.same("its elements", x.elements(4), 5);
            Check.same("as few as can be", x.elements(x.sum(1, 1)), 3);
        });
        s.given(5, "other", () -> {
            Residuary x = oneChain();
            x.chain('g', 2);
            x.sum(0, 1);
            x.sum(1, 0);
            Check.same("'l' below: its middle one's square is 0", x.make(2, '*', 1, 1), 0);
            Check.same("'l' above: its 0 is left", x.make(3, '*', 2, 2), 1);
        });
        s.thrown(5, INDEX, () -> {
            for (int algebra : NONE_OF_ONE) {
                Portrait.isLeft("first " + algebra, INDEX, x -> x.chain('g', 2), x -> x.sum(algebra, 0));
                Portrait.isLeft("second " + algebra, INDEX, x -> x.chain('g', 2), x -> x.sum(0, algebra));
            }
        });
        s.thrown(5, ARITHMETIC, () -> {
            Residuary x = new Residuary();
            for (int i = 2; i <= 8; i++) {
                x.chain('g', i);
            }
            Check.same("8 elements", x.elements(x.sum(5, 0)), 8);
            Check.same("8 elements", x.elements(x.sum(0, 5)), 8);
            Check.same("8 elements", x.elements(x.sum(2, 3)), 8);
            Check.fails("9 elements", ARITHMETIC, () -> x.sum(6, 0));
            Check.fails("9 elements", ARITHMETIC, () -> x.sum(0, 6));
            Check.fails("9 elements", ARITHMETIC, () -> x.sum(3, 3));
            Check.fails("15 elements", ARITHMETIC, () -> x.sum(6, 6));
            Check.same("three were added", x.chain('g', 2), 10);
            Portrait.isLeft("9 elements", ARITHMETIC, y -> y.chain('g', 5), y -> y.sum(0, 0));
        });
        s.thrown(5, STATE, () -> {
            Portrait.isLeft("a thirteenth", STATE, AlgebraEdges::fill, x -> x.sum(0, 0));
            Residuary x = new Residuary();
            for (int i = 0; i < 11; i++) {
                x.chain('g', 5);
            }
            Check.fails("too many elements are told first", ARITHMETIC, () -> x.sum(0, 0));
            Check.same("a twelfth", x.chain('g', 4), 11);
            Check.fails("no room for what has few", STATE, () -> x.sum(0, 11));
            Check.fails("too many elements are told first, also with 12", ARITHMETIC, () -> x.sum(0, 0));
            Check.fails("no algebra is told first", INDEX, () -> x.sum(0, 12));
        });
        s.term("The sum of two puts the second one above the first one, the greatest element of the first one being left out:"
                + " its elements are the others of the first one, then those of the second one;", () -> {
            Residuary x = new Residuary();
            x.chain('g', 2);
            x.times(0, 0);
            x.sum(1, 1);
            Check.same("seven of twice four", x.elements(2), 7);
            Check.isFalse("1 and 2 of the first one", x.isBelow(2, 1, 2));
            Check.isTrue("2 of the first one below all of the second one", x.isBelow(2, 2, 3));
            Check.isFalse("and not above", x.isBelow(2, 3, 2));
            Check.isFalse("1 and 2 of the second one", x.isBelow(2, 4, 5));
            Check.isTrue("the greatest one", x.isBelow(2, 5, 6));
        });
        s.term("a product of one of either is the one of the first one,", () -> {
            Residuary x = oneChain();
            x.sum(0, 0);
            for (int lower = 0; lower < 2; lower++) {
                for (int upper = 2; upper < 5; upper++) {
                    Check.same(lower + " with " + upper, x.make(1, '*', lower, upper), lower);
                    Check.same(upper + " with " + lower, x.make(1, '*', upper, lower), lower);
                }
            }
        });
        s.term("and a product that would be the element left out is the least one of the second one.", () -> {
            Residuary x = notRight();
            x.chain('g', 2);
            x.sum(0, 1);
            x.chain('h', 4);
            int[][] due = {{0, 0, 0, 0}, {0, 2, 1, 1}, {0, 1, 2, 2}, {0, 1, 2, 3}};
            for (int a = 0; a < 4; a++) {
                for (int b = 0; b < 4; b++) {
                    x.tell(3, a, b, due[a][b]);
                }
            }
            Check.isTrue("1 with 1 is 2", x.areAlike(2, 3));
            x.tell(3, 1, 1, 3);
            Check.isFalse("and not 3", x.areAlike(2, 3));
        });
    }

    private static void ofFrame(Sentences s) {
        s.says(6, "Adds the algebra of the frame.", () -> {
            Residuary x = oneChain();
            x.world();
            Check.same("its number", x.ofFrame(), 1);
            Check.same("of one world, two sets", x.elements(1), 2);
            Check.same("again another one", x.ofFrame(), 2);
            x.clearFrame();
            Check.same("it stays", x.elements(1), 2);
        });
        s.thrown(6, ELEMENT, () -> {
            Portrait.isLeft("none at first", ELEMENT, x -> x.chain('l', 3), x -> x.ofFrame());
            Residuary x = new Residuary();
            x.world();
            x.clearFrame();
            Check.fails("none any more", ELEMENT, () -> x.ofFrame());
            x.world();
            Check.same("one", x.ofFrame(), 0);
            fill11(x);
            x.clearFrame();
            Check.fails("ahead of 12 algebras", ELEMENT, () -> x.ofFrame());
        });
        s.thrown(6, ARITHMETIC, () -> {
            Residuary x = new Residuary();
            x.world();
            x.world();
            x.world();
            Check.same("8 sets of three worlds apart", x.elements(x.ofFrame()), 8);
            x.world();
            Check.fails("16 sets of four worlds apart", ARITHMETIC, () -> x.ofFrame());
            x.above(0, 1);
            Check.fails("12 sets", ARITHMETIC, () -> x.ofFrame());
            x.above(1, 2);
            Check.same("8 sets of three in a chain and one apart", x.elements(x.ofFrame()), 8);
            x.world();
            Check.fails("16 sets", ARITHMETIC, () -> x.ofFrame());
            x.above(2, 3);
            x.above(3, 4);
            Check.same("6 sets of five in a chain", x.elements(x.ofFrame()), 6);
            x.clearFrame();
            for (int i = 0; i < 4; i++) {
                x.world();
            }
            x.above(0, 1);
            x.above(0, 2);
            x.above(0, 3);
            Check.fails("9 sets of a world with three above it", ARITHMETIC, () -> x.ofFrame());
            Portrait.isLeft("9 sets", ARITHMETIC, AlgebraEdges::threeAboveOne, y -> y.ofFrame());
        });
        s.thrown(6, STATE, () -> {
            Portrait.isLeft("a thirteenth", STATE, x -> {
                x.world();
                fill(x);
            }, x -> x.ofFrame());
            Residuary x = new Residuary();
            threeAboveOne(x);
            fill(x);
            Check.fails("too many elements are told first", ARITHMETIC, () -> x.ofFrame());
        });
        s.term("The algebra of a frame has as elements its sets of worlds that have with each world all above it, in the order of rising"
                + " sizes, then numbers, a set being a sum of 2 to the power of its worlds;", () -> {
            Residuary x = new Residuary();
            x.world();
            x.world();
            x.world();
            x.above(0, 2);
            x.ofFrame();
            // The sets are none, 2, 4, 5, 6, 7: world 0 has world 2 above it.
            Check.same("six sets", x.elements(0), 6);
            Check.same("2 or 4 is 6", x.make(0, '|', 1, 2), 4);
            Check.same("2 or 5 is 7", x.make(0, '|', 1, 3), 5);
            Check.isTrue("4 in 5", x.isBelow(0, 2, 3));
            Check.isFalse("5 not in 6", x.isBelow(0, 3, 4));
            Check.isFalse("2 not in 5", x.isBelow(0, 1, 3));
            Residuary y = new Residuary();
            y.world();
            y.world();
            y.world();
            y.ofFrame();
            // None, 1, 2, 4, then 3, 5, 6, then 7: 4 is smaller than 3.
            int[] sets = {0, 1, 2, 4, 3, 5, 6, 7};
            for (int one = 0; one < 8; one++) {
                for (int other = 0; other < 8; other++) {
                    Check.same(sets[one] + " in " + sets[other], y.isBelow(0, one, other), (sets[one] & ~sets[other]) == 0);
                }
            }
        });
        s.term("the order is that of sets, and the product what both have in common.", () -> {
            Residuary x = new Residuary();
            x.world();
            x.world();
            x.ofFrame();
            Check.isFalse("1 not in 2", x.isBelow(0, 1, 2));
            Check.isFalse("2 not in 1", x.isBelow(0, 2, 1));
            Check.isTrue("none in 1", x.isBelow(0, 0, 1));
            Check.isTrue("2 in both", x.isBelow(0, 2, 3));
            Check.same("1 and 2 have none", x.make(0, '*', 1, 2), 0);
            Check.same("both and 2 have 2", x.make(0, '*', 3, 2), 2);
        });
    }

    /** A world with three above it: 9 sets. */
    static void threeAboveOne(Residuary x) {
        for (int i = 0; i < 4; i++) {
            x.world();
        }
        x.above(0, 1);
        x.above(0, 2);
        x.above(0, 3);
    }

    private static void fill11(Residuary x) {
        for (int i = 0; i < 11; i++) {
            x.chain('g', 2);
        }
    }

    private static void elementsAndRight(Sentences s) {
        s.says(7, "Returns how many elements an algebra has.", () -> {
            Residuary x = new Residuary();
            Check.same("two", x.elements(x.chain('l', 2)), 2);
            Check.same("eight", x.elements(x.chain('h', 8)), 8);
        });
        s.thrown(7, INDEX, () -> {
            for (int algebra : NONE_OF_ONE) {
                Check.fails("algebra " + algebra, INDEX, () -> oneChain().elements(algebra));
            }
            Residuary x = new Residuary();
            Check.fails("none at all", INDEX, () -> x.elements(0));
            fill(x);
            Check.same("the last one", x.elements(11), 4);
            Check.fails("behind the last one", INDEX, () -> x.elements(12));
        });
        s.says(8, "Returns whether an algebra is right.", () -> {
            Residuary x = byHand();
            Check.isTrue("as 'd'", x.isRight(0));
            x.tell(0, 1, 1, 2);
            Check.isFalse("the square of the middle one is above it", x.isRight(0));
            x.tell(0, 1, 1, 1);
            Check.isTrue("the square of the middle one is itself", x.isRight(0));
        });
        s.thrown(8, INDEX, () -> {
            for (int algebra : NONE_OF_ONE) {
                Check.fails("algebra " + algebra, INDEX, () -> oneChain().isRight(algebra));
            }
        });
    }

    private static void rightTerms(Sentences s) {
        s.term("It is right if the order is one of a lattice, 0 being its least and the last number its greatest element,", () -> {
            Residuary x = new Residuary();
            for (int n = 2; n <= 8; n++) {
                Check.isTrue("a chain of " + n, x.isRight(x.chain("lgdh".charAt(n % 4), n)));
            }
            Check.isTrue("pairs", x.isRight(x.times(0, 2)));
            Check.isTrue("a sum", x.isRight(x.sum(0, 1)));
            Residuary y = new Residuary();
            y.world();
            y.world();
            y.above(0, 1);
            Check.isTrue("of a frame", y.isRight(y.ofFrame()));
            Check.same("0 is the least one", y.make(0, '&', 0, 1), 0);
            Check.same("the last one is the greatest one", y.make(0, '|', 1, 2), 2);
        });
        s.term("the product is associative, keeps the order on both sides,", () -> {
            Residuary x = new Residuary();
            x.chain('h', 4);
            x.tell(0, 2, 2, 1);
            Check.isTrue("2 2 is 1, and 1 with any 0", x.isRight(0));
            x.tell(0, 1, 2, 1);
            Check.isFalse("(2 2) 2 is 1, 2 (2 2) is 0", x.isRight(0));
            x.tell(0, 2, 1, 1);
            Check.isFalse("(1 2) 2 is 1, 1 (2 2) is 0", x.isRight(0));
            x.tell(0, 1, 1, 1);
            Check.isTrue("all are 1", x.isRight(0));
            keepsOneSide(x.chain('h', 4), x, true);
            keepsOneSide(x.chain('h', 4), x, false);
        });
        s.term("has the greatest element as its unit on both sides,", () -> {
            Residuary x = byHand();
            x.tell(0, 1, 2, 0);
            Check.isFalse("not behind", x.isRight(0));
            x.tell(0, 1, 2, 1);
            x.tell(0, 2, 1, 0);
            Check.isFalse("not ahead", x.isRight(0));
            x.tell(0, 2, 1, 1);
            x.tell(0, 2, 2, 1);
            Check.isFalse("not itself", x.isRight(0));
            Residuary y = new Residuary();
            y.chain('h', 2);
            y.tell(0, 1, 1, 0);
            Check.isFalse("all products 0", y.isRight(0));
        });
        s.term("and has for all a and c a greatest b with a b at most c, and likewise on the other side.", () -> {
            Residuary x = byHand();
            x.tell(0, 0, 1, 1);
            Check.isFalse("0 1 is 1: there is no b with 0 b at most 0 next to it", x.isRight(0));
            x.tell(0, 0, 1, 0);
            x.tell(0, 1, 0, 1);
            Check.isFalse("1 0 is 1: there is no b with 1 b at most 0", x.isRight(0));
            x.tell(0, 1, 0, 0);
            Check.isTrue("both are 0", x.isRight(0));
        });
        s.term("The arrows a under c, and c over a, are these greatest elements, of a b and of b a.", () -> {
            Residuary x = new Residuary();
            int one = AlgebraTest.oneSided(x);
            // 1 2 is 1 and 2 1 is 0, 2 2 is 2: the b with 2 b at most 0 are 0 and 1, those with b 2 at most 0 just 0.
            Check.same("2 under 0", x.make(one, '<', 2, 0), 1);
            Check.same("0 over 2", x.make(one, '>', 0, 2), 0);
            Check.same("1 under 0", x.make(one, '<', 1, 0), 1);
            Check.same("0 over 1", x.make(one, '>', 0, 1), 2);
            Check.same("all are at most c", x.make(one, '<', 0, 0), 3);
            Check.same("none but 0", x.make(one, '<', 3, 0), 0);
        });
        s.term("What is proved holds in each algebra that is right.", () -> {
            Residuary x = new Residuary();
            AlgebraTest.oneSided(x);
            // (v0 under v1) after v0 leads to v1; the other way round it does in 'e' alone.
            int formula = Build.all(x, "v0 v1 <0,1 *0,2 <3,1");
            int turned = Build.all(x, "*2,0 <5,1");
            Check.isTrue("proved", x.isProved('l', formula));
            Check.isTrue("and valid", x.isValid(0, formula));
            Check.isFalse("not proved", x.isProved('l', turned));
            Check.isFalse("nor valid", x.isValid(0, turned));
            Check.isTrue("as all that is proved", x.isTrue());
        });
    }

    /** All products of 1 and 2 are the first one, or the second one. */
    private static void keepsOneSide(int algebra, Residuary x, boolean isFirst) {
        for (int a = 1; a < 3; a++) {
            for (int b = 1; b < 3; b++) {
                x.tell(algebra, a, b, isFirst ? a : b);
            }
        }
        Check.isFalse("keeps the order on one side alone", x.isRight(algebra));
    }

    private static void make(Sentences s) {
        s.says(9, "Returns what two elements make.", () -> {
            Residuary x = new Residuary();
            x.chain('l', 8);
            Check.same("product", x.make(0, '*', 7, 0), 0);
            Check.same("greatest ones", x.make(0, '*', 7, 7), 7);
            Check.same("meet", x.make(0, '&', 0, 7), 0);
            Check.same("join", x.make(0, '|', 0, 7), 7);
        });
        s.given(9, "by", () -> {
            Residuary x = new Residuary();
            int one = AlgebraTest.oneSided(x);
            Check.same("product", x.make(one, '*', 1, 2), 1);
            Check.same("meet", x.make(one, '&', 2, 1), 1);
            Check.same("join", x.make(one, '|', 1, 2), 2);
            Check.same("the one under the other", x.make(one, '<', 2, 1), 1);
            Check.same("the one over the other", x.make(one, '>', 2, 1), 3);
            Check.same("the other under the one", x.make(one, '<', 1, 2), 3);
            Check.same("the other over the one", x.make(one, '>', 1, 2), 1);
        });
        s.given(9, "other", () -> {
            Residuary x = oneChain();
            Check.same("the same", x.make(0, '*', 1, 1), 0);
            Check.same("the same under itself", x.make(0, '<', 1, 1), 2);
            Check.same("another one", x.make(0, '<', 1, 0), 1);
        });
        s.thrown(9, INDEX, () -> {
            for (int algebra : NONE_OF_ONE) {
                Check.fails("algebra " + algebra, INDEX, () -> oneChain().make(algebra, '*', 0, 0));
                Check.fails("ahead of what else is out of range", INDEX, () -> notRight().make(algebra, '?', 9, 9));
            }
        });
        s.thrown(9, ARGUMENT, () -> {
            for (int element : new int[] {-1, 3, 8, Integer.MAX_VALUE, Integer.MIN_VALUE}) {
                Check.fails("one " + element, ARGUMENT, () -> oneChain().make(0, '*', element, 0));
                Check.fails("other " + element, ARGUMENT, () -> oneChain().make(0, '*', 0, element));
            }
            for (char by : new char[] {'v', '0', '1', '+', 0, '*' + 256, Character.MAX_VALUE}) {
                Check.fails("letter " + (int) by, ARGUMENT, () -> oneChain().make(0, by, 0, 0));
            }
            Check.same("the last elements", oneChain().make(0, '*', 2, 2), 2);
        });
        s.thrown(9, UNSUPPORTED, () -> {
            for (char by : "*&|<>".toCharArray()) {
                Check.fails("not right, by " + by, UNSUPPORTED, () -> notRight().make(0, by, 0, 0));
                Check.fails("an element is told first", ARGUMENT, () -> notRight().make(0, by, 0, 3));
            }
            Check.fails("a letter is told first", ARGUMENT, () -> notRight().make(0, 'x', 0, 0));
        });
    }

    private static void isBelow(Sentences s) {
        s.says(10, "Returns whether an element is at most another one.", () -> {
            Residuary x = oneChain();
            Check.isTrue("lesser", x.isBelow(0, 0, 1));
            Check.isFalse("greater", x.isBelow(0, 1, 0));
            Check.isTrue("also if the algebra is not right", notRight().isBelow(0, 1, 2));
        });
        s.given(10, "other", () -> {
            Residuary x = oneChain();
            Check.isTrue("the same", x.isBelow(0, 1, 1));
            Check.isTrue("the same least one", x.isBelow(0, 0, 0));
            Check.isTrue("another one", x.isBelow(0, 1, 2));
        });
        s.thrown(10, INDEX, () -> {
            for (int algebra : NONE_OF_ONE) {
                Check.fails("algebra " + algebra, INDEX, () -> oneChain().isBelow(algebra, 0, 0));
                Check.fails("ahead of elements out of range", INDEX, () -> oneChain().isBelow(algebra, 9, 9));
            }
        });
        s.thrown(10, ARGUMENT, () -> {
            for (int element : new int[] {-1, 3, 8, Integer.MAX_VALUE, Integer.MIN_VALUE}) {
                Check.fails("one " + element, ARGUMENT, () -> oneChain().isBelow(0, element, 0));
                Check.fails("other " + element, ARGUMENT, () -> oneChain().isBelow(0, 0, element));
            }
            Check.isTrue("the last ones", oneChain().isBelow(0, 2, 2));
        });
    }

    private static void keeps(Sentences s) {
        s.says(11, "Returns whether an algebra keeps a law.", () -> {
            Check.isTrue("'l' keeps 'n'", oneChain().keeps(0, 'n'));
            Check.isFalse("'l' does not keep 'i'", oneChain().keeps(0, 'i'));
        });
        s.given(11, "law", () -> {
            Residuary x = new Residuary();
            x.chain('g', 2);
            for (char law : "cipdnbo".toCharArray()) {
                Check.isTrue("the least chain keeps " + law, x.keeps(0, law));
            }
            for (char law : new char[] {'a', 'e', 'l', 'C', 0, 'c' + 256, Character.MAX_VALUE}) {
                Check.fails("no law " + (int) law, ARGUMENT, () -> x.keeps(0, law));
            }
        });
        s.thrown(11, INDEX, () -> {
            for (int algebra : NONE_OF_ONE) {
                Check.fails("algebra " + algebra, INDEX, () -> oneChain().keeps(algebra, 'c'));
                Check.fails("ahead of a letter out of range", INDEX, () -> oneChain().keeps(algebra, 'x'));
            }
        });
        s.thrown(11, ARGUMENT, () -> {
            Check.fails("a letter", ARGUMENT, () -> oneChain().keeps(0, 'x'));
            Check.fails("a letter, ahead of one that is not right", ARGUMENT, () -> notRight().keeps(0, 'x'));
        });
        s.thrown(11, UNSUPPORTED, () -> {
            for (char law : "cipdnbo".toCharArray()) {
                Check.fails("not right, " + law, UNSUPPORTED, () -> notRight().keeps(0, law));
            }
        });
    }

    /** Of each law, one that keeps it and one that fails it for just few elements. */
    private static void laws(Sentences s) {
        s.term("'c' a b is b a;", () -> {
            Residuary x = new Residuary();
            AlgebraTest.oneSided(x);
            Check.isFalse("1 2 is not 2 1", x.keeps(0, 'c'));
            x.tell(0, 2, 1, 1);
            Check.isTrue("now it is", x.keeps(0, 'c'));
        });
        s.term("'i' a a is a;", () -> {
            Residuary x = new Residuary();
            AlgebraTest.oneSided(x);
            x.tell(0, 2, 1, 1);
            Check.isFalse("1 1 is 0", x.keeps(0, 'i'));
            x.tell(0, 1, 1, 1);
            Check.isTrue("now it is 1", x.keeps(0, 'i'));
        });
        s.term("'p' the join of a under c and of c under a is the greatest element;", () -> {
            Residuary x = new Residuary();
            x.chain('g', 2);
            x.times(0, 0);
            Check.isTrue("pairs", x.keeps(1, 'p'));
            x.sum(1, 0);
            Check.isFalse("1 and 2 below a greatest one", x.keeps(2, 'p'));
            AlgebraTest.oneSided(x);
            Check.isTrue("a chain whose sides differ", x.keeps(3, 'p'));
        });
        s.term("'d' a times (a under c) is the meet of a and c;", () -> {
            Residuary x = new Residuary();
            AlgebraTest.oneSided(x);
            // 2 under 1 is 1, and 2 1 is 0.
            Check.isFalse("2 times (2 under 1)", x.keeps(0, 'd'));
            AlgebraTest.otherSided(x);
            Check.isTrue("the sides turned: 2 times (2 under 1) is 1", x.keeps(1, 'd'));
            x.chain('l', 8);
            Check.isTrue("'l'", x.keeps(2, 'd'));
            x.chain('d', 4);
            Check.isFalse("'d' of four", x.keeps(3, 'd'));
            x.chain('d', 3);
            Check.isTrue("'d' of three", x.keeps(4, 'd'));
        });
        s.term("'n' (a under 0) under 0 is a;", () -> {
            Residuary x = new Residuary();
            x.chain('d', 3);
            Check.isTrue("'d' of three", x.keeps(0, 'n'));
            x.chain('d', 4);
            Check.isFalse("'d' of four", x.keeps(1, 'n'));
            x.chain('g', 3);
            Check.isFalse("'g' of three", x.keeps(2, 'n'));
        });
        s.term("'b' the join of a and of a under 0 is the greatest one;", () -> {
            Residuary x = new Residuary();
            x.chain('g', 2);
            x.times(0, 0);
            Check.isTrue("pairs of two", x.keeps(1, 'b'));
            x.chain('l', 3);
            Check.isFalse("'l' of three", x.keeps(2, 'b'));
            x.sum(0, 1);
            Check.isFalse("pairs above a least one", x.keeps(3, 'b'));
        });
        s.term("'o' the order is one of a chain.", () -> {
            Residuary x = new Residuary();
            AlgebraTest.oneSided(x);
            Check.isTrue("a chain", x.keeps(0, 'o'));
            x.chain('g', 2);
            x.sum(0, x.times(1, 1));
            Check.isFalse("all but two", x.keeps(3, 'o'));
            x.world();
            x.world();
            x.above(0, 1);
            Check.isTrue("sets of a chain of worlds", x.keeps(x.ofFrame(), 'o'));
        });
    }

    private static void filters(Sentences s) {
        s.says(12, "Returns how many filters an algebra has.", () -> {
            Residuary x = new Residuary();
            for (int n = 2; n <= 8; n++) {
                Check.same("of 'g' as many as elements", x.filters(x.chain('g', n), false), n);
            }
        });
        s.given(12, "areNormal", () -> {
            Residuary x = new Residuary();
            AlgebraTest.oneSided(x);
            Check.same("all", x.filters(0, false), 3);
            Check.same("only normal ones", x.filters(0, true), 2);
        });
        s.says(13, "Returns whether an algebra is simple.", () -> {
            Residuary x = new Residuary();
            Check.isTrue("of two elements", x.isSimple(x.chain('g', 2)));
            Check.isFalse("of three filters", x.isSimple(x.chain('g', 3)));
        });
        s.says(14, "Returns whether an algebra is not made of lesser ones.", () -> {
            Residuary x = new Residuary();
            Check.isTrue("of two elements", x.isOne(x.chain('g', 2)));
            Check.isFalse("pairs", x.isOne(x.times(0, 0)));
        });
        for (int algebra : NONE_OF_ONE) {
            s.thrown(12, INDEX, () -> Check.fails("algebra " + algebra, INDEX, () -> oneChain().filters(algebra, true)));
            s.thrown(13, INDEX, () -> Check.fails("algebra " + algebra, INDEX, () -> oneChain().isSimple(algebra)));
            s.thrown(14, INDEX, () -> Check.fails("algebra " + algebra, INDEX, () -> oneChain().isOne(algebra)));
        }
        s.thrown(12, UNSUPPORTED, () -> {
            Check.fails("not right", UNSUPPORTED, () -> notRight().filters(0, false));
            Check.fails("not right", UNSUPPORTED, () -> notRight().filters(0, true));
            Check.fails("no algebra is told first", INDEX, () -> notRight().filters(1, true));
        });
        s.thrown(13, UNSUPPORTED, () -> Check.fails("not right", UNSUPPORTED, () -> notRight().isSimple(0)));
        s.thrown(14, UNSUPPORTED, () -> Check.fails("not right", UNSUPPORTED, () -> notRight().isOne(0)));
    }

    private static void filterTerms(Sentences s) {
        s.term("A filter has the greatest element, with an element each that is above it in the order, and with two of them their product;", () -> {
            Residuary x = new Residuary();
            x.chain('l', 4);
            Check.same("'l' of four: the greatest one alone, and all", x.filters(0, false), 2);
            x.chain('h', 4);
            x.tell(1, 2, 2, 1);
            x.tell(1, 1, 2, 1);
            x.tell(1, 2, 1, 1);
            x.tell(1, 1, 1, 1);
            // With 2 its square 1: of 3, of 3, 2 and 1, and all.
            Check.same("an element with its square", x.filters(1, false), 3);
            x.chain('g', 2);
            x.sum(x.times(2, 2), 2);
            // The two in the middle have no other one above them but what both have.
            Check.same("of an order that is no chain", x.filters(4, false), 5);
        });
        s.term("it is normal if with a it has, for each b, b under a b, and b a over b.", () -> {
            Residuary x = new Residuary();
            AlgebraTest.oneSided(x);
            AlgebraTest.otherSided(x);
            for (int algebra = 0; algebra < 2; algebra++) {
                Check.same("one side alone is not enough, " + algebra, x.filters(algebra, true), 2);
            }
        });
        s.term("An algebra is simple if it has just two normal filters;", () -> {
            Residuary x = new Residuary();
            AlgebraTest.oneSided(x);
            Check.isTrue("of three filters, two are normal", x.isSimple(0));
            Check.isTrue("'l'", x.isSimple(x.chain('l', 8)));
            x.chain('g', 2);
            Check.isFalse("above a least one, three", x.isSimple(x.sum(2, 0)));
        });
        s.term("it is not made of lesser ones, if there is a least one among the normal filters but the one of the greatest element alone.", () -> {
            Residuary x = new Residuary();
            x.chain('g', 3);
            Check.isTrue("of three normal filters, one is the least but one", x.isOne(0));
            x.chain('g', 2);
            x.times(1, 1);
            Check.isFalse("two of them with nothing in common", x.isOne(2));
            x.sum(2, 1);
            Check.isTrue("two of them with one in common", x.isOne(3));
            x.sum(1, 2);
            Check.isFalse("two of them above a least one", x.isOne(4));
            AlgebraTest.oneSided(x);
            Check.isTrue("a simple one", x.isOne(5));
        });
    }

    private static void areAlike(Sentences s) {
        s.says(15, "Returns whether two algebras are alike.", () -> {
            Residuary x = oneChain();
            x.chain('d', 3);
            x.chain('g', 3);
            Check.isTrue("itself", x.areAlike(0, 0));
            Check.isTrue("'l' and 'd' of three", x.areAlike(0, 1));
            Check.isFalse("'l' and 'g' of three", x.areAlike(0, 2));
        });
        s.thrown(15, INDEX, () -> {
            for (int algebra : NONE_OF_ONE) {
                Check.fails("first " + algebra, INDEX, () -> oneChain().areAlike(algebra, 0));
                Check.fails("second " + algebra, INDEX, () -> oneChain().areAlike(0, algebra));
            }
        });
        s.term("Two algebras are alike if there is a map one to one that keeps order and product both ways;", () -> {
            Residuary x = new Residuary();
            x.chain('g', 2);
            x.chain('g', 4);
            x.times(0, 1);
            x.times(1, 0);
            Check.isTrue("pairs turned round", x.areAlike(2, 3));
            x.chain('g', 8);
            Check.isFalse("eight each, another order", x.areAlike(2, 4));
            Check.isFalse("fewer into more", x.areAlike(0, 1));
            Check.isFalse("more into fewer", x.areAlike(1, 0));
            x.chain('h', 4);
            x.chain('h', 4);
            x.tell(5, 1, 2, 1);
            x.tell(6, 2, 1, 1);
            Check.isFalse("sides turned", x.areAlike(5, 6));
            x.tell(5, 1, 2, 0);
            x.tell(6, 2, 1, 0);
            Check.isTrue("the same again", x.areAlike(5, 6));
            x.tell(5, 3, 3, 0);
            Check.isFalse("also of ones that are not right", x.areAlike(5, 6));
            x.tell(6, 3, 3, 0);
            Check.isTrue("both not right", x.areAlike(5, 6));
        });
    }

    private static void isPart(Sentences s) {
        s.says(16, "Returns whether an algebra is a part of another one.", () -> {
            Residuary x = oneChain();
            x.chain('l', 5);
            x.chain('l', 4);
            Check.isTrue("itself", x.isPart(0, 0));
            Check.isTrue("three in five", x.isPart(0, 1));
            Check.isFalse("three in four", x.isPart(0, 2));
            Check.isFalse("five in three", x.isPart(1, 0));
        });
        s.thrown(16, INDEX, () -> {
            for (int algebra : NONE_OF_ONE) {
                Check.fails("first " + algebra, INDEX, () -> notRight().isPart(algebra, 0));
                Check.fails("second " + algebra, INDEX, () -> notRight().isPart(0, algebra));
            }
        });
        s.thrown(16, UNSUPPORTED, () -> {
            Residuary x = notRight();
            x.chain('g', 2);
            Check.fails("the first one", UNSUPPORTED, () -> x.isPart(0, 1));
            Check.fails("the second one", UNSUPPORTED, () -> x.isPart(1, 0));
            Check.fails("both", UNSUPPORTED, () -> x.isPart(0, 0));
            x.chain('g', 3);
            Check.fails("also if there were too many elements", UNSUPPORTED, () -> x.isPart(2, 0));
        });
        s.term("one is a part of another one if such a map into it keeps product, order, meet, join, both arrows, 0 and the greatest element.", () -> {
            Residuary x = new Residuary();
            x.chain('g', 2);
            x.chain('g', 3);
            x.times(0, 0);
            Check.isTrue("0 and the greatest one", x.isPart(0, 2));
            Check.isFalse("arrows: the middle one denied is 0 in three", x.isPart(1, 2));
            x.sum(2, 0);
            Check.isTrue("the arrows of 3 are those of three", x.isPart(1, 3));
            Check.isFalse("the join of 1 and 2 is not the greatest one", x.isPart(2, 3));
            x.chain('l', 3);
            x.sum(0, 4);
            Check.isFalse("0 is not kept", x.isPart(4, 5));
            x.sum(4, 0);
            Check.isTrue("0 is kept", x.isPart(4, 6));
            AlgebraTest.oneSided(x);
            Check.isFalse("over alone is kept", x.isPart(1, 7));
            AlgebraTest.otherSided(x);
            Check.isFalse("under alone is kept", x.isPart(1, 8));
        });
    }

    private static void part(Sentences s) {
        s.says(17, "Returns the part that elements make.", () -> {
            Residuary x = oneChain();
            Check.same("none told", x.part(0, 0), 1 + 4);
            Check.same("all told", x.part(0, 7), 7);
            Check.same("the middle one", x.part(0, 2), 7);
        });
        s.given(17, "elements", () -> {
            Residuary x = new Residuary();
            x.chain('g', 8);
            for (int element = 1; element < 7; element++) {
                Check.same("element " + element, x.part(0, 1 << element), 1 + (1 << element) + 128);
            }
            Check.same("all eight", x.part(0, 255), 255);
        });
        s.says(17, "Returns the set, likewise.", () -> {
            Residuary x = new Residuary();
            x.chain('g', 8);
            Check.same("0 and the greatest one", x.part(0, 0), 1 + 128);
            Check.same("they can be told, too", x.part(0, 1 + 128), 1 + 128);
        });
        s.thrown(17, INDEX, () -> {
            for (int algebra : NONE_OF_ONE) {
                Check.fails("algebra " + algebra, INDEX, () -> oneChain().part(algebra, 0));
                Check.fails("ahead of another element", INDEX, () -> oneChain().part(algebra, -1));
            }
        });
        s.thrown(17, ARGUMENT, () -> {
            for (int set : new int[] {8, 9, 15, 256, 1 << 30, Integer.MAX_VALUE, -1, Integer.MIN_VALUE, Integer.MIN_VALUE + 1}) {
                Check.fails("set " + set, ARGUMENT, () -> oneChain().part(0, set));
                Check.fails("set " + set + ", ahead of one that is not right", ARGUMENT, () -> notRight().part(0, set));
            }
            Residuary x = new Residuary();
            x.chain('g', 8);
            Check.fails("a ninth", ARGUMENT, () -> x.part(0, 256));
        });
        s.thrown(17, UNSUPPORTED, () -> {
            Check.fails("not right, none", UNSUPPORTED, () -> notRight().part(0, 0));
            Check.fails("not right, all", UNSUPPORTED, () -> notRight().part(0, 7));
        });
        s.term("The part that some elements make is the least set with them, 0 and the greatest element that has with any two also"
                + " meet, join, product and arrows.", () -> {
            Residuary x = new Residuary();
            x.chain('g', 2);
            x.times(0, 0);
            x.sum(1, 0);
            // 1 denied is 2, and both join at 3, which is not the greatest one.
            Check.same("an arrow, and a join", x.part(2, 2), 31);
            Check.same("the join alone has nothing with it", x.part(2, 8), 1 + 8 + 16);
            x.sum(0, 1);
            // 2 and 3 above a least one: their meet is 1.
            Check.same("a meet", x.part(3, 4 + 8), 31);
            Check.same("one of both, and no meet", x.part(3, 4), 1 + 4 + 16);
            AlgebraTest.oneSided(x);
            Check.same("under", x.part(4, 4), 15);
            Check.same("over", x.part(4, 2), 15);
            x.chain('h', 4);
            x.tell(5, 1, 1, 1);
            x.tell(5, 2, 2, 1);
            x.tell(5, 1, 2, 1);
            x.tell(5, 2, 1, 1);
            Check.same("a product", x.part(5, 4), 15);
        });
    }

    private static void count(Sentences s) {
        s.says(18, "Returns how many products of a chain there are by which it is right.", () -> {
            Residuary x = new Residuary();
            Check.same("of two elements just one", x.count(2, false), 1);
            Check.same("of three elements two", x.count(3, false), 2);
            Check.same("of five elements", x.count(5, false), 44);
            Check.same("of five elements, again", x.count(5, true), 22);
            Check.fails("no algebra is added", INDEX, () -> x.elements(0));
        });
        s.given(18, "elements", () -> {
            Residuary x = new Residuary();
            for (int n = 2; n <= 4; n++) {
                Check.same("of " + n, x.count(n, false), plainCount(n, false));
            }
            Check.isTrue("five", x.count(5, true) > 0);
        });
        s.given(18, "commutes", () -> {
            Residuary x = new Residuary();
            for (int n = 2; n <= 4; n++) {
                Check.same("of " + n, x.count(n, true), plainCount(n, true));
            }
            Check.same("of four, all", x.count(4, false), 8);
            Check.same("of four, those with a b as b a", x.count(4, true), 6);
        });
        s.thrown(18, ARGUMENT, () -> {
            for (int elements : new int[] {1, 6, 0, -2, 8, Integer.MAX_VALUE, Integer.MIN_VALUE}) {
                Check.fails(elements + " elements", ARGUMENT, () -> oneChain().count(elements, true));
                Check.fails(elements + " elements", ARGUMENT, () -> oneChain().count(elements, false));
            }
            Portrait.isLeft("6 elements", ARGUMENT, x -> x.chain('h', 3), x -> x.count(6, true));
        });
    }

    /** By telling each product of the elements between 0 and the greatest one. */
    private static int plainCount(int n, boolean commutes) {
        int inner = n - 2;
        int cells = inner * inner;
        int all = (int) Math.pow(n, cells);
        int found = 0;
        Residuary x = null;
        for (int choice = 0; choice < all; choice++) {
            if (choice % 50 == 0) {
                x = new Residuary();
                x.chain('h', n);
            }
            int rest = choice;
            for (int cell = 0; cell < cells; cell++) {
                x.tell(0, 1 + cell / inner, 1 + cell % inner, rest % n);
                rest /= n;
            }
            found += x.isRight(0) && (!commutes || x.keeps(0, 'c')) ? 1 : 0;
        }
        return found;
    }

    private AlgebraEdges() {
    }
}
