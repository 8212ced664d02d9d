import java.util.NoSuchElementException;

/** Promises 19 to 27, 51 and 52: formulas and their values. */
public final class FormulaTest {
    private static final Class<IndexOutOfBoundsException> INDEX = IndexOutOfBoundsException.class;
    private static final Class<IllegalArgumentException> ARGUMENT = IllegalArgumentException.class;
    private static final Class<IllegalStateException> STATE = IllegalStateException.class;
    private static final Class<UnsupportedOperationException> UNSUPPORTED = UnsupportedOperationException.class;
    private static final Class<NoSuchElementException> ELEMENT = NoSuchElementException.class;

    public static void main(String[] args) {
        numbers();
        lengths();
        values();
        valid();
        same();
        fails();
        denied();
        translated();
        full();
        shares();
        compared();
        Check.end("FormulaTest");
    }

    private static void numbers() {
        Residuary x = new Residuary();
        Check.same("a variable", x.formula('v', 3, 77), 0);
        Check.same("the same one", x.formula('v', 3, -5), 0);
        Check.same("a constant", x.formula('0', 4, -9), 1);
        Check.same("the same one", x.formula('0', 0, 0), 1);
        Check.same("another constant", x.formula('1', 0, 0), 2);
        Check.same("another variable", x.formula('v', 0, 0), 3);
        String kinds = "&|*<>";
        for (int i = 0; i < 5; i++) {
            Check.same("of two", x.formula(kinds.charAt(i), 0, 3), 4 + 2 * i);
            Check.same("of two, turned", x.formula(kinds.charAt(i), 3, 0), 5 + 2 * i);
        }
        Check.same("the same of two", x.formula('*', 3, 0), 9);
        Check.same("formulas", x.formulas(), 14);
        Check.fails("no kind", ARGUMENT, () -> x.formula('x', 99, 99));
        Check.fails("no kind", ARGUMENT, () -> x.formula((char) 0x176, 0, 0));
        Check.fails("no variable", ARGUMENT, () -> x.formula('v', 4, 0));
        Check.fails("no variable", ARGUMENT, () -> x.formula('v', -1, 0));
        Check.fails("no first", INDEX, () -> x.formula('&', 14, 0));
        Check.fails("no second", INDEX, () -> x.formula('>', 0, 14));
        Check.fails("no second", INDEX, () -> x.formula('|', 0, -1));
        Check.same("formulas as before", x.formulas(), 14);
    }

    private static void lengths() {
        Residuary x = new Residuary();
        x.formula('v', 0, 0);
        for (int i = 1; i < 40; i++) {
            x.formula('&', i - 1, i - 1);
        }
        Check.same("a variable", x.length(0), 1);
        Check.same("a meet", x.length(1), 3);
        Check.same("the longest one told", x.length(18), 524287);
        Check.same("one that is longer", x.length(19), 999999);
        Check.same("one that is far longer", x.length(39), 999999);
        Check.fails("no formula", INDEX, () -> x.length(40));
        Check.fails("no formula", INDEX, () -> x.length(-1));
        Residuary y = new Residuary();
        Check.same("a constant", y.length(y.formula('0', 0, 0)), 1);
        Check.same("different ones", y.length(Build.all(y, "v0 v1 <1,2 |3,0")), 5);
    }

    private static void values() {
        Residuary x = new Residuary();
        int one = AlgebraTest.oneSided(x);
        int l3 = x.chain('l', 3);
        Build.all(x, "v0 v1 *0,1 <0,1 >0,1 &0,1 |0,1 0 1 v3");
        // Values 6 are v0 as 2 and v1 as 1, of four; 9 are v0 as 1 and v1 as 2.
        Check.same("product", x.value(one, 2, 6), 0);
        Check.same("product, turned", x.value(one, 2, 9), 1);
        Check.same("under", x.value(one, 3, 6), 1);
        Check.same("over", x.value(one, 4, 6), 3);
        Check.same("over", x.value(one, 4, 8), 0);
        Check.same("under", x.value(one, 3, 1), 1);
        Check.same("meet", x.value(one, 5, 6), 1);
        Check.same("join", x.value(one, 6, 6), 2);
        Check.same("0", x.value(one, 7, 0), 0);
        Check.same("1", x.value(one, 8, 0), 3);
        Check.same("the greatest number", x.value(l3, 9, 80), 2);
        Check.same("the last variable", x.value(l3, 9, 27), 1);
        Check.fails("no values", ARGUMENT, () -> x.value(l3, 9, 81));
        Check.fails("no values", ARGUMENT, () -> x.value(l3, 2, 9));
        Check.fails("no values", ARGUMENT, () -> x.value(l3, 0, 3));
        Check.fails("no values", ARGUMENT, () -> x.value(l3, 0, -1));
        Check.fails("no values of a constant", ARGUMENT, () -> x.value(l3, 8, 1));
        Check.fails("no algebra", INDEX, () -> x.value(2, 0, 99));
        Check.fails("no formula", INDEX, () -> x.value(0, 10, 99));
        x.tell(one, 2, 2, 1);
        Check.fails("not right", UNSUPPORTED, () -> x.value(one, 0, 0));
        Check.fails("no values first", ARGUMENT, () -> x.value(one, 0, 4));
        Check.fails("no formula first", INDEX, () -> x.value(one, 10, 4));
    }

    private static void valid() {
        Residuary x = new Residuary();
        int l3 = x.chain('l', 3);
        int g3 = x.chain('g', 3);
        Build.all(x, "v0 v1 <0,1 <1,0 |2,3 *0,0 <0,5 v3 <7,0 0 1");
        Check.isTrue("of chains", x.isValid(l3, 4));
        Check.isTrue("of lesser ones", x.isValid(g3, 6));
        Check.isFalse("not of others", x.isValid(l3, 6));
        Check.isTrue("1", x.isValid(l3, 10));
        Check.isFalse("0", x.isValid(l3, 9));
        Check.same("the first values", x.refute(l3, 6), 1);
        Check.same("the first values", x.refute(g3, 2), 1);
        Check.same("the first values", x.refute(g3, 3), 3);
        Check.same("the last variable", x.refute(g3, 8), 27);
        Check.same("of a constant", x.refute(g3, 9), 0);
        Check.fails("valid", ELEMENT, () -> x.refute(l3, 4));
        Check.fails("isValid, no algebra", INDEX, () -> x.isValid(2, 0));
        Check.fails("isValid, no formula", INDEX, () -> x.isValid(0, 11));
        Check.fails("refute, no algebra", INDEX, () -> x.refute(-1, 0));
        Check.fails("refute, no formula", INDEX, () -> x.refute(0, 11));
        int bad = x.chain('h', 3);
        x.tell(bad, 1, 1, 2);
        Check.fails("isValid, not right", UNSUPPORTED, () -> x.isValid(bad, 10));
        Check.fails("refute, not right", UNSUPPORTED, () -> x.refute(bad, 10));
        Check.fails("refute, no formula first", INDEX, () -> x.refute(bad, 11));
    }

    private static void same() {
        Residuary x = new Residuary();
        int g2 = x.chain('g', 2);
        int one = AlgebraTest.oneSided(x);
        Build.all(x, "v0 v1 *0,1 *1,0 <0,1 >1,0 v2 &0,6 |6,0 &0,8 <0,0 <6,6");
        Check.isTrue("commuting", x.areSame(g2, 2, 3));
        Check.isFalse("not commuting", x.areSame(one, 2, 3));
        Check.isTrue("one arrow", x.areSame(g2, 4, 5));
        Check.isFalse("two arrows", x.areSame(one, 4, 5));
        Check.isTrue("absorbed", x.areSame(one, 0, 9));
        Check.isFalse("not of the other one's variable", x.areSame(one, 0, 7));
        Check.isTrue("of unlike variables", x.areSame(one, 10, 11));
        Check.isTrue("itself", x.areSame(one, 6, 6));
        Check.fails("no algebra", INDEX, () -> x.areSame(2, 0, 0));
        Check.fails("no formula", INDEX, () -> x.areSame(0, 12, 0));
        Check.fails("no formula", INDEX, () -> x.areSame(0, 0, 12));
        x.tell(one, 2, 2, 1);
        Check.fails("not right", UNSUPPORTED, () -> x.areSame(one, 0, 0));
    }

    private static void fails() {
        Residuary x = new Residuary();
        // 9: a square is at most its double denial's; 10: v0 or not; then v0 or not v0 to the power of 6 and 7.
        Build.all(x, "0 v0 <1,0 |1,2 <2,0 <4,1 v1 <1,6 <6,0 |1,7 |9,8");
        Check.same("v0 or not, l", x.fails('l', 3), 3);
        Check.same("v0 or not, g", x.fails('g', 3), 3);
        Check.same("v0 or not, d", x.fails('d', 3), 3);
        Check.same("twice denied, g", x.fails('g', 5), 3);
        Check.same("twice denied, d", x.fails('d', 5), 4);
        Check.fails("twice denied, l", ELEMENT, () -> x.fails('l', 5));
        Check.same("four elements, g", x.fails('g', 10), 4);
        Check.same("0", x.fails('l', 0), 2);
        int power = 1;
        for (int i = 2; i <= 6; i++) {
            power = x.formula('*', power, 1);
        }
        int sixth = x.formula('|', 1, x.formula('<', power, 0));
        int seventh = x.formula('|', 1, x.formula('<', x.formula('*', power, 1), 0));
        Check.same("eight elements", x.fails('l', sixth), 8);
        Check.fails("nine elements", ELEMENT, () -> x.fails('l', seventh));
        Check.fails("by hand", ARGUMENT, () -> x.fails('h', 99));
        Check.fails("no kind", ARGUMENT, () -> x.fails('x', 0));
        Check.fails("no formula", INDEX, () -> x.fails('d', 99));
        Check.fails("no algebra was added", INDEX, () -> x.elements(0));
    }

    private static void denied() {
        Residuary x = new Residuary();
        x.formula('v', 0, 0);
        Check.same("all added", x.deny(0), 3);
        Check.same("0 first", x.formula('0', 0, 0), 1);
        Check.same("then under 0", x.formula('<', 0, 1), 2);
        Check.same("then under 0", x.formula('<', 2, 1), 3);
        Check.same("nothing more", x.deny(0), 3);
        Check.same("formulas", x.formulas(), 4);
        Check.same("of 0", x.deny(1), 5);
        Check.same("of a denial", x.deny(2), 6);
        Check.same("one was there", x.formulas(), 7);
        Check.fails("no formula", INDEX, () -> x.deny(7));
        Check.fails("no formula", INDEX, () -> x.deny(-1));
        Residuary y = new Residuary();
        Build.all(y, "0 v0");
        Check.same("0 is there", y.deny(1), 3);
        Check.same("0 denied", y.deny(0), 5);
    }

    private static void translated() {
        Residuary x = new Residuary();
        Build.all(x, "v0 1 &1,1 v1 *3,0");
        Check.same("without variables", x.translate(2), 2);
        Check.same("nothing is added", x.formulas(), 5);
        // 5 is '0', 6 and 7 deny v1, which comes first in the product, 8 and 9 deny v0.
        Check.same("first ahead of second", x.translate(4), 10);
        Check.same("0", x.formula('0', 0, 0), 5);
        Check.same("v1 under 0", x.formula('<', 3, 5), 6);
        Check.same("v1 denied twice", x.formula('<', 6, 5), 7);
        Check.same("v0 under 0", x.formula('<', 0, 5), 8);
        Check.same("v0 denied twice", x.formula('<', 8, 5), 9);
        Check.same("their product", x.formula('*', 7, 9), 10);
        Check.same("again", x.translate(4), 10);
        Check.same("nothing more", x.formulas(), 11);
        Residuary y = new Residuary();
        Build.all(y, "1 0 |0,0 >2,1");
        Check.same("a join and an arrow", y.translate(3), 6);
        Check.same("the join under 0", y.formula('<', 2, 1), 4);
        Check.same("the join denied twice", y.formula('<', 4, 1), 5);
        Check.same("the arrow of it", y.formula('>', 5, 1), 6);
        Residuary z = new Residuary();
        Check.same("a join", Build.all(z, "1 |0,0"), 1);
        Check.same("a join without variables needs 0", z.translate(1), 4);
        Check.same("0 first", z.formula('0', 0, 0), 2);
        Check.same("the formula 0", z.translate(0), 0);
        Check.same("0 itself", z.translate(2), 2);
        Check.fails("no formula", INDEX, () -> z.translate(5));
        Check.fails("no formula", INDEX, () -> z.translate(-1));
    }

    private static void full() {
        Residuary x = new Residuary();
        x.formula('v', 0, 0);
        for (int i = 1; i < 38; i++) {
            x.formula('&', i - 1, i - 1);
        }
        Check.fails("3 more are too many", STATE, () -> x.deny(0));
        Check.same("none was added", x.formulas(), 38);
        Check.fails("a translation is too long", STATE, () -> x.translate(2));
        Check.same("none was added", x.formulas(), 38);
        Check.same("0", x.formula('0', 0, 0), 38);
        Check.fails("2 more are too many", STATE, () -> x.deny(0));
        Check.same("v0 under 0", x.formula('<', 0, 38), 39);
        Check.fails("1 more is too many", STATE, () -> x.deny(0));
        Check.fails("1 more is too many", STATE, () -> x.translate(0));
        Check.fails("a new one", STATE, () -> x.formula('1', 0, 0));
        Check.fails("a new one of two", STATE, () -> x.formula('&', 0, 39));
        Check.fails("no formula first", INDEX, () -> x.formula('&', 0, 40));
        Check.fails("no kind first", ARGUMENT, () -> x.formula('?', 0, 40));
        Check.same("one that is there", x.formula('&', 36, 36), 37);
        Check.same("formulas", x.formulas(), 40);
        Residuary y = new Residuary();
        Build.all(y, "v0 0 <0,1 <2,1");
        for (int i = 4; i < 40; i++) {
            y.formula('&', i - 1, i - 1);
        }
        Check.same("all there, with 40", y.deny(0), 3);
        Check.same("all there, with 40", y.translate(0), 3);
    }

    private static void shares() {
        Residuary x = new Residuary();
        int l3 = x.chain('l', 3);
        Build.all(x, "v0 v1 <0,1 0 1 v3 *0,1");
        Check.same("a third", x.shareBits(l3, 0), Float.floatToIntBits((float) 1 / (float) 3));
        Check.same("two thirds", x.shareBits(l3, 2), Float.floatToIntBits((float) 6 / (float) 9));
        Check.same("none", x.shareBits(l3, 3), 0);
        Check.same("all", x.shareBits(l3, 4), Float.floatToIntBits(1.0f));
        Check.same("of all four variables", x.shareBits(l3, 5), Float.floatToIntBits((float) 27 / (float) 81));
        int g8 = x.chain('g', 8);
        Check.same("a small share", x.shareBits(g8, 6), Float.floatToIntBits((float) 1 / (float) 64));
        Check.fails("no algebra", INDEX, () -> x.shareBits(2, 0));
        Check.fails("no formula", INDEX, () -> x.shareBits(0, 7));
        int bad = x.chain('h', 3);
        x.tell(bad, 1, 1, 2);
        Check.fails("not right", UNSUPPORTED, () -> x.shareBits(bad, 0));
    }

    /** Against what `make` tells, one sign after the other. */
    private static void compared() {
        Draw draw = new Draw(3);
        for (int round = 0; round < 60; round++) {
            Residuary x = new Residuary();
            PlainSearch plain = new PlainSearch();
            AlgebraTest.oneSided(x);
            x.chain(draw.of("lgd"), 2 + draw.below(5));
            x.chain('g', 2);
            x.sum(2, 0);
            x.times(2, 2);
            x.sum(4, 0);
            for (int i = 0; i < 4; i++) {
                plain.add(x, i == 3 ? draw.of("01v") : 'v', i, 0);
            }
            for (int i = 4; i < 12; i++) {
                plain.add(x, draw.of("&|*<>"), draw.below(x.formulas()), draw.below(x.formulas()));
            }
            int last = x.formulas() - 1;
            for (int algebra = 0; algebra < 6; algebra++) {
                compare(x, plain, algebra, last, draw.below(last));
            }
        }
    }

    static int plainValue(Residuary x, PlainSearch plain, int algebra, int formula, int values) {
        int elements = x.elements(algebra);
        switch (plain.kind(formula)) {
            case '0':
                return 0;
            case '1':
                return elements - 1;
            case 'v':
                return values / (int) Math.pow(elements, plain.first(formula)) % elements;
            default:
                return x.make(algebra, plain.kind(formula),
                        plainValue(x, plain, algebra, plain.first(formula), values),
                        plainValue(x, plain, algebra, plain.second(formula), values));
        }
    }

    /** The variables of a formula as a set. */
    static int variables(PlainSearch plain, int formula) {
        switch (plain.kind(formula)) {
            case '0':
            case '1':
                return 0;
            case 'v':
                return 1 << plain.first(formula);
            default:
                return variables(plain, plain.first(formula)) | variables(plain, plain.second(formula));
        }
    }

    private static int greatest(int variables) {
        return 32 - Integer.numberOfLeadingZeros(variables);
    }

    private static void compare(Residuary x, PlainSearch plain, int algebra, int formula, int other) {
        int elements = x.elements(algebra);
        int all = (int) Math.pow(elements, greatest(variables(plain, formula)));
        int first = -1;
        int top = 0;
        for (int values = 0; values < all; values++) {
            int due = plainValue(x, plain, algebra, formula, values);
            Check.same("value", x.value(algebra, formula, values), due);
            if (due == elements - 1) {
                top++;
            } else if (first < 0) {
                first = values;
            }
        }
        Check.fails("no more values", ARGUMENT, () -> x.value(algebra, formula, all));
        Check.same("isValid", x.isValid(algebra, formula), first < 0);
        Check.same("shareBits", x.shareBits(algebra, formula), Float.floatToIntBits((float) top / (float) all));
        if (first >= 0) {
            Check.same("refute", x.refute(algebra, formula), first);
        } else {
            Check.fails("refute", ELEMENT, () -> x.refute(algebra, formula));
        }
        int both = (int) Math.pow(elements, greatest(variables(plain, formula) | variables(plain, other)));
        boolean areSame = true;
        for (int values = 0; values < both; values++) {
            areSame &= plainValue(x, plain, algebra, formula, values) == plainValue(x, plain, algebra, other, values);
        }
        Check.same("areSame", x.areSame(algebra, formula, other), areSame);
    }
}
