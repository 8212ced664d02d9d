import java.util.NoSuchElementException;

/** The edges of promises 19 to 27, 51 and 52, and of what the terms say on formulas and translations. */
final class FormulaEdges {
    private static final Class<IndexOutOfBoundsException> INDEX = IndexOutOfBoundsException.class;
    private static final Class<IllegalArgumentException> ARGUMENT = IllegalArgumentException.class;
    private static final Class<IllegalStateException> STATE = IllegalStateException.class;
    private static final Class<UnsupportedOperationException> UNSUPPORTED = UnsupportedOperationException.class;
    private static final Class<NoSuchElementException> ELEMENT = NoSuchElementException.class;
    private static final int[] NONE_OF_ONE = {-1, 1, 39, 40, 64, Integer.MAX_VALUE, Integer.MIN_VALUE};

    static void all(Sentences s) {
        formula(s);
        formulaThrows(s);
        formulaTerms(s);
        length(s);
        value(s);
        valueTerms(s);
        isValid(s);
        refute(s);
        areSame(s);
        fails(s);
        deny(s);
        translate(s);
        translationTerms(s);
        formulas(s);
        shareBits(s);
    }

    /** A new object with v0 as formula 0, and a chain of three elements as algebra 0. */
    static Residuary oneFormula() {
        Residuary x = AlgebraEdges.oneChain();
        x.formula('v', 0, 0);
        return x;
    }

    /** The same with an algebra that is not right. */
    static Residuary notRight() {
        Residuary x = AlgebraEdges.notRight();
        x.formula('v', 0, 0);
        return x;
    }

    /** Formulas up to so many: v0, then the meet of each with itself. */
    static void fill(Residuary x, int upTo) {
        x.formula('v', 0, 0);
        for (int i = 1; i < upTo; i++) {
            x.formula('&', i - 1, i - 1);
        }
    }

    private static void formula(Sentences s) {
        s.says(19, "Adds a formula.", () -> {
            Residuary x = new Residuary();
            Check.same("the first one", x.formula('1', 0, 0), 0);
            Check.same("the second one", x.formula('>', 0, 0), 1);
            Check.same("how many", x.formulas(), 2);
        });
        s.given(19, "kind", () -> {
            Residuary x = oneFormula();
            String kinds = "01&|*<>";
            for (int i = 0; i < kinds.length(); i++) {
                Check.same("kind " + kinds.charAt(i), x.formula(kinds.charAt(i), 0, 0), i + 1);
            }
            Check.same("each is another one", x.formulas(), 8);
        });
        s.given(19, "first", () -> {
            Residuary x = new Residuary();
            for (int odd : new int[] {-1, 0, 4, 40, Integer.MAX_VALUE, Integer.MIN_VALUE}) {
                Check.same("of no meaning for '0', " + odd, x.formula('0', odd, 0), 0);
                Check.same("of no meaning for '1', " + odd, x.formula('1', odd, 0), 1);
            }
            for (int v = 0; v < 4; v++) {
                Check.same("the variable", x.formula('v', v, 0), 2 + v);
            }
            Check.same("the first formula", x.formula('<', 5, 2), 6);
            Check.same("told again", x.formula('<', 5, 2), 6);
            Check.same("another first formula", x.formula('<', 4, 2), 7);
        });
        s.given(19, "second", () -> {
            Residuary x = new Residuary();
            for (int odd : new int[] {-1, 0, 4, 40, Integer.MAX_VALUE, Integer.MIN_VALUE}) {
                Check.same("of no meaning for 'v', " + odd, x.formula('v', 3, odd), 0);
                Check.same("of no meaning for '0', " + odd, x.formula('0', 0, odd), 1);
                Check.same("of no meaning for '1', " + odd, x.formula('1', 0, odd), 2);
            }
            Check.same("the second formula", x.formula('*', 0, 2), 3);
            Check.same("another second formula", x.formula('*', 0, 1), 4);
        });
    }

    private static void formulaThrows(Sentences s) {
        s.thrown(19, ARGUMENT, () -> {
            for (char kind : new char[] {'x', 'V', '2', '/', 0, 'v' + 256, Character.MAX_VALUE}) {
                Portrait.isLeft("kind " + (int) kind, ARGUMENT, x -> x.formula('v', 0, 0), x -> x.formula(kind, 0, 0));
            }
            for (int variable : new int[] {-1, 4, 40, Integer.MAX_VALUE, Integer.MIN_VALUE}) {
                Portrait.isLeft("variable " + variable, ARGUMENT, x -> x.formula('v', 0, 0), x -> x.formula('v', variable, 0));
            }
            Check.fails("a kind is told ahead of no formula", ARGUMENT, () -> oneFormula().formula('x', 1, 1));
        });
        s.thrown(19, INDEX, () -> {
            for (int formula : NONE_OF_ONE) {
                for (char kind : "&|*<>".toCharArray()) {
                    Portrait.isLeft("first " + formula, INDEX, x -> x.formula('v', 0, 0), x -> x.formula(kind, formula, 0));
                    Portrait.isLeft("second " + formula, INDEX, x -> x.formula('v', 0, 0), x -> x.formula(kind, 0, formula));
                }
            }
            Check.fails("none of none", INDEX, () -> new Residuary().formula('&', 0, 0));
            Residuary x = new Residuary();
            fill(x, 40);
            Check.fails("ahead of 40", INDEX, () -> x.formula('*', 40, 0));
            Check.fails("ahead of 40", INDEX, () -> x.formula('*', 0, 40));
        });
        s.thrown(19, STATE, () -> {
            for (char kind : "v01&|*<>".toCharArray()) {
                Portrait.isLeft("a new one, " + kind, STATE, x -> fill(x, 40), x -> x.formula(kind, 3, 5));
            }
            Residuary x = new Residuary();
            fill(x, 39);
            Check.same("a fortieth", x.formula('1', 0, 0), 39);
            Check.fails("and no more", STATE, () -> x.formula('0', 0, 0));
            Check.fails("no variable is told first", ARGUMENT, () -> x.formula('v', 4, 0));
        });
    }

    private static void formulaTerms(Sentences s) {
        s.term("At most 40 formulas are numbered from 0;", () -> {
            Residuary x = new Residuary();
            for (int i = 0; i < 40; i++) {
                Check.same("its number", i == 0 ? x.formula('v', 0, 0) : x.formula('|', i - 1, i - 1), i);
            }
            Check.same("forty", x.formulas(), 40);
            Check.fails("and no more", STATE, () -> x.formula('|', 39, 39));
        });
        s.term("of one that is there already its number is told, also with 40, and none is added:", () -> {
            Residuary x = new Residuary();
            Build.all(x, "v3 0 1 &0,1 |0,1 *0,1 <0,1 >0,1");
            for (int i = 8; i < 40; i++) {
                String kinds = "v01&|*<>";
                for (int kind = 0; kind < 8; kind++) {
                    Check.same("number " + kind, x.formula(kinds.charAt(kind), kind == 0 ? 3 : 0, 1), kind);
                }
                Check.same("none is added", x.formulas(), i);
                x.formula('*', i - 1, i - 1);
            }
            Check.same("with 40, the variable", x.formula('v', 3, 9), 0);
            Check.same("with 40, the last one", x.formula('*', 38, 38), 39);
            Check.same("with 40, of two", x.formula('>', 0, 1), 7);
            Check.same("none is added", x.formulas(), 40);
        });
        s.term("'v' a variable, 0 to 3;", () -> {
            Residuary x = new Residuary();
            x.chain('g', 2);
            for (int v = 0; v < 4; v++) {
                x.formula('v', v, 0);
                Check.same("has its own values", x.refute(0, v), 0);
                Check.same("is met at its own power", x.value(0, v, 1 << v), 1);
            }
            Check.same("are four", x.formulas(), 4);
        });
        s.term("'0'; '1'; of two formulas: '&' meet, '|' join, '*' product, '<' the first one under the second one, and '>' the first one"
                + " over the second one.", () -> {
            Residuary x = new Residuary();
            AlgebraTest.oneSided(x);
            Build.all(x, "v0 v1 &0,1 |0,1 *0,1 <0,1 >0,1");
            // 9 is v0 as 1 and v1 as 2; 6 the other way round; 2 and 8 are 2 with 0.
            Check.same("meet", x.value(0, 2, 9), 1);
            Check.same("join", x.value(0, 3, 9), 2);
            Check.same("product", x.value(0, 4, 9), 1);
            Check.same("product, turned", x.value(0, 4, 6), 0);
            Check.same("2 under 0", x.value(0, 5, 2), 1);
            Check.same("2 over 0", x.value(0, 6, 2), 3);
            Check.same("0 under 2", x.value(0, 5, 8), 3);
            Check.same("0 over 2", x.value(0, 6, 8), 0);
        });
        s.term("In an algebra, '0' is 0, '1' the greatest element.", () -> {
            Residuary x = new Residuary();
            Build.all(x, "0 1");
            for (int n = 2; n <= 8; n++) {
                int algebra = x.chain('d', n);
                Check.same("0", x.value(algebra, 0, 0), 0);
                Check.same("1", x.value(algebra, 1, 0), n - 1);
            }
        });
    }

    private static void length(Sentences s) {
        s.says(20, "Returns how many signs a formula has: variables and constants, and those that join two.", () -> {
            Residuary x = new Residuary();
            Build.all(x, "v2 0 1 >0,1 *3,2 |4,4");
            int[] due = {1, 1, 1, 3, 5, 11};
            for (int i = 0; i < 6; i++) {
                Check.same("formula " + i, x.length(i), due[i]);
            }
        });
        s.says(20, "Returns how many, at most 999999.", () -> {
            // 2 to the power of 19, less 1, and lengths around 999999: 3 less, 1 less, itself, 1 and 3 more.
            Residuary x = new Residuary();
            fill(x, 20);
            Check.same("524287", x.length(18), 524287);
            Check.same("1048575 is told as 999999", x.length(19), 999999);
            for (int signs : new int[] {999997, 999999, 1000001, 1000003}) {
                Residuary y = new Residuary();
                Check.same("of " + signs, y.length(ofLength(y, signs)), Math.min(999999, signs));
            }
            Residuary z = new Residuary();
            fill(z, 40);
            for (int i = 20; i < 40; i++) {
                Check.same("no wrap-around, formula " + i, z.length(i), 999999);
            }
        });
        s.thrown(20, INDEX, () -> {
            for (int formula : NONE_OF_ONE) {
                Check.fails("formula " + formula, INDEX, () -> oneFormula().length(formula));
            }
            Check.fails("none of none", INDEX, () -> new Residuary().length(0));
        });
    }

    /** A formula of an odd number of signs: of h signs each side makes 2 h and 1. */
    private static int ofLength(Residuary x, int signs) {
        if (signs == 1) {
            return x.formula('v', 0, 0);
        }
        int half = (signs - 1) / 2;
        if (half % 2 == 1) {
            int one = ofLength(x, half);
            return x.formula('&', one, one);
        }
        int one = ofLength(x, signs - 2);
        return x.formula('|', one, x.formula('v', 0, 0));
    }

    private static void value(Sentences s) {
        s.says(21, "Returns the value of a formula.", () -> {
            Residuary x = oneFormula();
            for (int v = 0; v < 3; v++) {
                Check.same("v0", x.value(0, 0, v), v);
            }
        });
        s.given(21, "values", () -> {
            Residuary x = new Residuary();
            x.chain('g', 8);
            Build.all(x, "v3 v0 &0,1 1");
            Check.same("the last of all", x.value(0, 2, 4095), 7);
            Check.same("the first of all", x.value(0, 2, 0), 0);
            Check.same("the last variable alone", x.value(0, 0, 512), 1);
            Check.same("just below it", x.value(0, 0, 511), 0);
            Check.same("the first variable alone", x.value(0, 1, 7), 7);
            Check.same("of no variables", x.value(0, 3, 0), 7);
        });
        s.thrown(21, INDEX, () -> {
            for (int formula : NONE_OF_ONE) {
                Check.fails("formula " + formula, INDEX, () -> oneFormula().value(0, formula, 0));
                Check.fails("ahead of no values", INDEX, () -> oneFormula().value(0, formula, -1));
                Check.fails("algebra " + formula, INDEX, () -> oneFormula().value(formula, 0, 0));
                Check.fails("ahead of no values", INDEX, () -> oneFormula().value(formula, 0, -1));
            }
            Check.fails("no formula in an algebra that is not right", INDEX, () -> notRight().value(0, 1, 0));
        });
        s.thrown(21, ARGUMENT, () -> {
            for (int values : new int[] {-1, 3, 4, 27, Integer.MAX_VALUE, Integer.MIN_VALUE}) {
                Check.fails("values " + values, ARGUMENT, () -> oneFormula().value(0, 0, values));
                Check.fails("values " + values + ", ahead of one that is not right", ARGUMENT, () -> notRight().value(0, 0, values));
            }
            Residuary x = new Residuary();
            x.chain('g', 8);
            Build.all(x, "v3 1");
            Check.fails("one too many", ARGUMENT, () -> x.value(0, 0, 4096));
            Check.fails("one too many, of no variables", ARGUMENT, () -> x.value(0, 1, 1));
        });
        s.thrown(21, UNSUPPORTED, () -> {
            for (int values = 0; values < 3; values++) {
                int which = values;
                Check.fails("values " + values, UNSUPPORTED, () -> notRight().value(0, 0, which));
            }
        });
    }

    private static void valueTerms(Sentences s) {
        s.term("The values of the variables are numbered by the sum of each times the elements to the power of its number;", () -> {
            Residuary x = AlgebraEdges.oneChain();
            Build.all(x, "v0 v1 v2 v3 1 &3,4");
            for (int values = 0; values < 81; values++) {
                Check.same("v3", x.value(0, 5, values), values / 27);
                if (values < 27) {
                    Check.same("v2", x.value(0, 2, values), values / 9);
                }
                if (values < 9) {
                    Check.same("v1", x.value(0, 1, values), values / 3);
                }
            }
        });
        s.term("only variables up to the greatest one that occurs are given values, of two formulas of either.", () -> {
            Residuary x = AlgebraEdges.oneChain();
            Build.all(x, "v2 v0 &0,1 1 <1,3 <0,3");
            Check.same("v0 alone: three", x.value(0, 1, 2), 2);
            Check.fails("v0 alone: no fourth", ARGUMENT, () -> x.value(0, 1, 3));
            Check.same("v2 alone: also v0 and v1", x.value(0, 0, 26), 2);
            Check.fails("v2 alone: no more", ARGUMENT, () -> x.value(0, 0, 27));
            Check.same("v0 and v2", x.value(0, 2, 26), 2);
            Check.fails("v0 and v2: no more", ARGUMENT, () -> x.value(0, 2, 27));
            Check.isFalse("of two formulas, those of the second one", x.areSame(0, 1, 2));
            Check.isFalse("of two formulas, those of the first one", x.areSame(0, 2, 1));
            Check.isFalse("of two formulas, those of each", x.areSame(0, x.formula('v', 3, 0), x.formula('v', 1, 0)));
            Check.isTrue("of two formulas, both are always the greatest one", x.areSame(0, 4, 5));
        });
        s.term("A formula is valid if it has the greatest element for all values.", () -> {
            Residuary x = AlgebraEdges.oneChain();
            Build.all(x, "v0 <0,0 *0,0 <2,0 <0,2 0 <5,0 <5,5 >5,5");
            Check.isTrue("itself", x.isValid(0, 1));
            Check.isTrue("its square leads to it", x.isValid(0, 3));
            Check.isFalse("all but one of the values", x.isValid(0, 4));
            Check.same("the one", x.refute(0, 4), 1);
            Check.isTrue("from 0", x.isValid(0, 6));
            Check.isTrue("without variables", x.isValid(0, 7));
            Check.isFalse("the last values alone", x.isValid(0, 0));
        });
    }

    private static void isValid(Sentences s) {
        s.says(22, "Returns whether a formula is valid.", () -> {
            Residuary x = new Residuary();
            x.chain('g', 8);
            Build.all(x, "v3 v2 v1 v0 &0,1 &4,2 &5,3 <6,0 <0,6");
            Check.isTrue("for all 4096 values", x.isValid(0, 7));
            Check.isFalse("not for all of them", x.isValid(0, 8));
        });
        s.thrown(22, INDEX, () -> {
            for (int number : NONE_OF_ONE) {
                Check.fails("formula " + number, INDEX, () -> notRight().isValid(0, number));
                Check.fails("algebra " + number, INDEX, () -> oneFormula().isValid(number, 0));
            }
        });
        s.thrown(22, UNSUPPORTED, () -> {
            Residuary x = notRight();
            x.formula('1', 0, 0);
            Check.fails("a variable", UNSUPPORTED, () -> x.isValid(0, 0));
            Check.fails("'1'", UNSUPPORTED, () -> x.isValid(0, 1));
        });
    }

    private static void refute(Sentences s) {
        s.says(23, "Returns the first values for which a formula is not the greatest element.", () -> {
            Residuary x = AlgebraEdges.oneChain();
            Build.all(x, "v0 0 v3 <2,1 |3,0 v1 <0,5 <5,0");
            Check.same("0", x.refute(0, 0), 0);
            Check.same("of no variables", x.refute(0, 1), 0);
            Check.same("of the last variable", x.refute(0, 3), 27);
            Check.same("v3 as 1, v0 as 0", x.refute(0, 4), 27);
            Check.same("v0 as 1, v1 as 0", x.refute(0, 6), 1);
            Check.same("v0 as 0, v1 as 1", x.refute(0, 7), 3);
            int last = x.formula('<', x.formula('&', x.formula('&', 0, 2), x.formula('&', 5, x.formula('v', 2, 0))), 1);
            x.chain('g', 2);
            Check.same("the last of all values", x.refute(1, last), 15);
        });
        s.thrown(23, INDEX, () -> {
            for (int number : NONE_OF_ONE) {
                Check.fails("formula " + number, INDEX, () -> notRight().refute(0, number));
                Check.fails("algebra " + number, INDEX, () -> oneFormula().refute(number, 0));
            }
        });
        s.thrown(23, UNSUPPORTED, () -> {
            Residuary x = notRight();
            x.formula('1', 0, 0);
            Check.fails("a variable", UNSUPPORTED, () -> x.refute(0, 0));
            Check.fails("ahead of one that is valid", UNSUPPORTED, () -> x.refute(0, 1));
        });
        s.thrown(23, ELEMENT, () -> {
            Residuary x = oneFormula();
            Build.all(x, "1 <0,0");
            Check.fails("'1'", ELEMENT, () -> x.refute(0, 1));
            Check.fails("itself", ELEMENT, () -> x.refute(0, 2));
        });
    }

    private static void areSame(Sentences s) {
        s.says(24, "Returns whether two formulas are the same for all values.", () -> {
            Residuary x = AlgebraEdges.oneChain();
            Build.all(x, "v0 v3 &0,1 |0,2 *0,0 *4,0");
            Check.isTrue("itself", x.areSame(0, 1, 1));
            Check.isTrue("v0, and v0 or what is below it", x.areSame(0, 0, 3));
            Check.isTrue("turned", x.areSame(0, 3, 0));
            Check.isFalse("squares and cubes differ for one value at most", x.areSame(0, 0, 4));
            Check.isTrue("of three elements, squares and cubes", x.areSame(0, 4, 5));
            x.chain('l', 4);
            Check.isFalse("of four elements", x.areSame(1, 4, 5));
            x.chain('g', 2);
            int zero = x.formula('0', 0, 0);
            int denied = x.formula('<', 0, zero);
            Check.isFalse("but for the first values", x.areSame(2, denied, zero));
            Check.isFalse("but for the last values", x.areSame(2, 2, zero));
        });
        s.thrown(24, INDEX, () -> {
            for (int number : NONE_OF_ONE) {
                Check.fails("formula " + number, INDEX, () -> notRight().areSame(0, number, 0));
                Check.fails("other " + number, INDEX, () -> notRight().areSame(0, 0, number));
                Check.fails("algebra " + number, INDEX, () -> oneFormula().areSame(number, 0, 0));
            }
        });
        s.thrown(24, UNSUPPORTED, () -> Check.fails("also of one formula", UNSUPPORTED, () -> notRight().areSame(0, 0, 0)));
    }

    private static void fails(Sentences s) {
        s.says(25, "Returns the fewest elements of a chain of a kind in which a formula is not valid.", () -> {
            Residuary x = new Residuary();
            Build.all(x, "0 v0 <1,0 |1,2 <2,0 <4,1");
            for (char kind : "lgd".toCharArray()) {
                Check.same("0 in " + kind, x.fails(kind, 0), 2);
                Check.same("v0 or not in " + kind, x.fails(kind, 3), 3);
            }
            Check.same("twice denied in 'd'", x.fails('d', 5), 4);
            Check.fails("no algebra is added", INDEX, () -> x.elements(0));
            AlgebraEdges.fill(x);
            Check.same("also with 12 algebras", x.fails('g', 5), 3);
        });
        s.given(25, "kind", () -> {
            Residuary x = new Residuary();
            Build.all(x, "v0 *0,0 <0,1 0 <0,3 <4,3 <5,0 *1,1 <1,7");
            Check.same("'l' fails v0 to its square", x.fails('l', 2), 3);
            Check.same("'d' fails it", x.fails('d', 2), 3);
            Check.fails("'g' does not", ELEMENT, () -> x.fails('g', 2));
            Check.fails("'l' does not fail twice denied", ELEMENT, () -> x.fails('l', 6));
            Check.same("'g' fails it", x.fails('g', 6), 3);
            Check.same("'l' fails a square to its square", x.fails('l', 8), 4);
            Check.fails("'d' does not", ELEMENT, () -> x.fails('d', 8));
        });
        s.says(25, "Returns how many, 2 to 8.", () -> {
            Residuary x = new Residuary();
            Build.all(x, "0 v0");
            Check.same("2", x.fails('l', 1), 2);
            // v0 or not v0 to some power: of n elements, n less 2 of them are not enough.
            for (int power = 2; power <= 7; power++) {
                int product = 1;
                for (int i = 1; i < power; i++) {
                    product = x.formula('*', product, 1);
                }
                int formula = x.formula('|', 1, x.formula('<', product, 0));
                if (power < 7) {
                    Check.same("power " + power, x.fails('l', formula), power + 2);
                } else {
                    Check.fails("it would be 9", ELEMENT, () -> x.fails('l', formula));
                }
            }
        });
        s.thrown(25, ARGUMENT, () -> {
            for (char kind : new char[] {'h', 'x', 'p', 'i', 'L', 0, 'l' + 256, Character.MAX_VALUE}) {
                Check.fails("kind " + (int) kind, ARGUMENT, () -> oneFormula().fails(kind, 0));
                Check.fails("ahead of no formula", ARGUMENT, () -> oneFormula().fails(kind, 1));
            }
        });
        s.thrown(25, INDEX, () -> {
            for (int number : NONE_OF_ONE) {
                Check.fails("formula " + number, INDEX, () -> oneFormula().fails('l', number));
            }
        });
        s.thrown(25, ELEMENT, () -> {
            Residuary x = oneFormula();
            Build.all(x, "1 <0,0");
            for (char kind : "lgd".toCharArray()) {
                Check.fails("'1'", ELEMENT, () -> x.fails(kind, 1));
                Check.fails("itself", ELEMENT, () -> x.fails(kind, 2));
            }
        });
    }

    private static void deny(Sentences s) {
        s.says(26, "Adds the double denial of a formula: '0', itself under that, and that under '0', what is not there yet.", () -> {
            Residuary x = new Residuary();
            x.formula('v', 1, 0);
            Check.same("three are added", x.deny(0), 3);
            Check.same("first '0'", x.formula('0', 0, 0), 1);
            Check.same("then itself under that", x.formula('<', 0, 1), 2);
            Check.same("then that under '0'", x.formula('<', 2, 1), 3);
            Check.same("no more", x.formulas(), 4);
            Check.same("all there", x.deny(0), 3);
            Check.same("one is there", x.deny(2), 4);
            Check.same("of '0' itself", x.deny(1), 6);
            Check.same("seven", x.formulas(), 7);
        });
        s.thrown(26, INDEX, () -> {
            for (int number : NONE_OF_ONE) {
                Portrait.isLeft("formula " + number, INDEX, x -> x.formula('v', 0, 0), x -> x.deny(number));
            }
            Residuary x = new Residuary();
            fill(x, 40);
            Check.fails("ahead of 40", INDEX, () -> x.deny(40));
        });
        s.thrown(26, STATE, () -> {
            Residuary x = new Residuary();
            fill(x, 37);
            Check.same("with 37, the last three", x.deny(0), 39);
            Check.same("with 40, all there", x.deny(0), 39);
            Check.fails("with 40, two more", STATE, () -> x.deny(1));
            for (int formulas = 38; formulas <= 40; formulas++) {
                int upTo = formulas;
                Portrait.isLeft("three more, with " + upTo, STATE, y -> fill(y, upTo), y -> y.deny(0));
            }
            Portrait.isLeft("two more, with 39", STATE, y -> {
                fill(y, 38);
                y.formula('0', 0, 0);
            }, y -> y.deny(0));
            Portrait.isLeft("one more, with 40", STATE, y -> {
                fill(y, 38);
                y.formula('0', 0, 0);
                y.formula('<', 0, 38);
            }, y -> y.deny(0));
        });
    }

    private static void translate(Sentences s) {
        s.says(27, "Adds the translation of a formula: '0' first, if it has a variable or a join, then, for each sign of it, in the order"
                + " first, second, itself, what is not there yet.", () -> {
            Residuary x = new Residuary();
            Build.all(x, "v0 v1 >1,0");
            Check.same("an arrow of two variables", x.translate(2), 8);
            String[] due = {"0", "<1,3", "<4,3", "<0,3", "<6,3", ">5,7"};
            for (int i = 0; i < due.length; i++) {
                Check.same(due[i], Build.all(x, due[i]), 3 + i);
            }
            Check.same("no more", x.formulas(), 9);
            Residuary y = new Residuary();
            Build.all(y, "1 &0,0 |1,0");
            Check.same("a join without variables", y.translate(2), 5);
            Check.same("'0' first", y.formula('0', 0, 0), 3);
            Check.same("the join under it", y.formula('<', 2, 3), 4);
            Check.same("no variable and no join", y.translate(1), 1);
            Check.same("no more", y.formulas(), 6);
            Residuary z = new Residuary();
            Build.all(z, "1 *0,0 >1,1");
            Check.same("neither, and no '0'", z.translate(2), 2);
            Check.same("none is added", z.formulas(), 3);
            Check.same("of '1'", z.translate(0), 0);
        });
        s.thrown(27, INDEX, () -> {
            for (int number : NONE_OF_ONE) {
                Portrait.isLeft("formula " + number, INDEX, x -> x.formula('v', 0, 0), x -> x.translate(number));
            }
            Residuary x = new Residuary();
            fill(x, 40);
            Check.fails("ahead of 40", INDEX, () -> x.translate(40));
        });
        s.thrown(27, STATE, () -> {
            Residuary x = new Residuary();
            fill(x, 37);
            Check.same("with 37, the last three", x.translate(0), 39);
            Check.same("with 40, all there", x.translate(0), 39);
            Check.fails("with 40, one more", STATE, () -> x.translate(1));
            Residuary y = new Residuary();
            fill(y, 36);
            Check.same("with 36, the last four", y.translate(1), 39);
            Portrait.isLeft("four more, with 37", STATE, z -> fill(z, 37), z -> z.translate(1));
            Portrait.isLeft("with 20, a translation of too many joins", STATE, FormulaEdges::growing, z -> z.translate(z.formulas() - 1));
            Portrait.isLeft("three more, with 40", STATE, z -> fill(z, 40), z -> z.translate(0));
            Residuary full = new Residuary();
            full.formula('1', 0, 0);
            for (int i = 1; i < 40; i++) {
                full.formula('&', i - 1, i - 1);
            }
            Check.same("with 40, none is needed", full.translate(39), 39);
        });
    }

    /** 20 formulas whose translation needs more than 20 others. */
    private static void growing(Residuary x) {
        x.formula('v', 0, 0);
        for (int i = 1; i < 20; i++) {
            x.formula('|', i - 1, i - 1);
        }
    }

    private static void translationTerms(Sentences s) {
        s.term("The double denial of a formula is (itself under '0') under '0'.", () -> {
            Residuary x = new Residuary();
            Build.all(x, "0 v0 <1,0 <2,0 >1,0 >4,0");
            Check.same("under, twice", x.deny(1), 3);
            Check.same("and not over", x.formulas(), 6);
        });
        s.term("The translation of a formula has the double denial of each variable and of each join within it, with all else as it is.", () -> {
            for (char kind : "&*<>".toCharArray()) {
                Residuary x = new Residuary();
                Build.all(x, "0 v0 <1,0 <2,0 1");
                int formula = x.formula(kind, 1, 4);
                int due = x.formula(kind, 3, 4);
                Check.same("as it is, " + kind, x.translate(formula), due);
                Check.same("nothing else, " + kind, x.formulas(), 7);
            }
            Residuary x = new Residuary();
            // 5 is v0 or 1, 6 that of the translation, 7 and 8 its double denial.
            Build.all(x, "0 v0 <1,0 <2,0 1 |1,4 |3,4 <6,0 <7,0");
            Check.same("a join", x.translate(5), 8);
            Check.same("nothing else", x.formulas(), 9);
            int twice = x.formula('|', 5, 5);
            Check.same("a join of joins", x.translate(twice), x.deny(x.formula('|', 8, 8)));
            Check.same("'0' and '1'", x.translate(x.formula('<', 0, 4)), x.formula('<', 0, 4));
        });
    }

    private static void formulas(Sentences s) {
        s.says(51, "Returns how many formulas there are.", () -> {
            Residuary x = new Residuary();
            Check.same("none", x.formulas(), 0);
            for (int i = 1; i <= 40; i++) {
                x.formula(i == 1 ? '1' : '*', i - 2, i - 2);
                Check.same("as many", x.formulas(), i);
            }
        });
    }

    private static void shareBits(Sentences s) {
        s.says(52, "Returns the bits of the share of the values for which a formula is the greatest element.", () -> {
            Residuary x = new Residuary();
            x.chain('g', 8);
            Build.all(x, "v0 v1 v2 v3 &0,1 &2,3 &4,5 0 1 <3,7");
            Check.same("one of 4096", x.shareBits(0, 6), 0x39800000);
            Check.same("none", x.shareBits(0, 7), 0);
            Check.same("all", x.shareBits(0, 8), 0x3f800000);
            Check.same("an eighth", x.shareBits(0, 0), 0x3e000000);
        });
        s.says(52, "Returns their number divided by that of all, both converted to float, as Float.floatToIntBits tells it.", () -> {
            for (int n = 2; n <= 8; n++) {
                Residuary x = new Residuary();
                x.chain('l', n);
                Build.all(x, "v0 v1 <0,1 |0,1 <3,0");
                Check.same("of " + n, x.shareBits(0, 0), Float.floatToIntBits((float) 1 / (float) n));
                Check.same("half and more, of " + n, x.shareBits(0, 2), Float.floatToIntBits((float) (n * (n + 1) / 2) / (float) (n * n)));
                Check.same("one or the other, of " + n, x.shareBits(0, 3), Float.floatToIntBits((float) (2 * n - 1) / (float) (n * n)));
            }
        });
        s.thrown(52, INDEX, () -> {
            for (int number : NONE_OF_ONE) {
                Check.fails("formula " + number, INDEX, () -> notRight().shareBits(0, number));
                Check.fails("algebra " + number, INDEX, () -> oneFormula().shareBits(number, 0));
            }
        });
        s.thrown(52, UNSUPPORTED, () -> {
            Residuary x = notRight();
            x.formula('0', 0, 0);
            Check.fails("a variable", UNSUPPORTED, () -> x.shareBits(0, 0));
            Check.fails("'0'", UNSUPPORTED, () -> x.shareBits(0, 1));
        });
    }

    private FormulaEdges() {
    }
}
