import java.math.BigInteger;
import java.util.ArrayList;
import java.util.HashSet;
import java.util.List;
import java.util.NoSuchElementException;
import java.util.Set;

/** Promises 28 to 30, and 54 beside them: proofs. */
public final class ProofTest {
    private static final Class<IndexOutOfBoundsException> INDEX = IndexOutOfBoundsException.class;
    private static final Class<IllegalArgumentException> ARGUMENT = IllegalArgumentException.class;
    private static final Class<UnsupportedOperationException> UNSUPPORTED = UnsupportedOperationException.class;
    private static final Class<NoSuchElementException> ELEMENT = NoSuchElementException.class;

    public static void main(String[] args) {
        rules();
        sizes();
        greatSizes();
        logics();
        limits();
        longRows();
        parts();
        exceptions();
        compared();
        oneAfterTheOther();
        Check.end("ProofTest");
    }

    static String answer(char logic, String text) {
        Residuary x = new Residuary();
        int formula = Build.all(x, text);
        int before = x.formulas();
        String result;
        try {
            result = String.valueOf(x.proof(logic, formula));
            Check.isTrue("proved in " + logic + ": " + text, x.isProved(logic, formula));
        } catch (NoSuchElementException e) {
            result = "none";
            Check.isFalse("proved in " + logic + ": " + text, x.isProved(logic, formula));
        } catch (UnsupportedOperationException e) {
            result = "gives up";
            Check.fails("gives up " + logic + ": " + text, UNSUPPORTED, () -> x.isProved(logic, formula));
        }
        Check.same("nothing is added", x.formulas(), before);
        return result;
    }

    /** The size of the smallest proof in each of the three, "none" or "gives up". */
    static void size(String text, String l, String e, String w) {
        Check.same("l " + text, answer('l', text), l);
        Check.same("e " + text, answer('e', text), e);
        Check.same("w " + text, answer('w', text), w);
    }

    /** Each rule by itself. */
    private static void rules() {
        size("1", "1", "1", "1");
        size("0", "none", "none", "none");
        size("v0", "none", "none", "none");
        size("v0 <0,0", "2", "2", "2");
        size("v0 >0,0", "2", "2", "2");
        size("0 v0 <0,1", "2", "2", "2");
        size("0 v0 v1 *1,0 *3,2 <4,1", "4", "4", "4");
        size("1 <0,0", "3", "3", "2");
        size("1 v0 *0,1 <2,1", "4", "4", "3");
        size("v0 v1 &0,1 <2,0", "3", "3", "3");
        size("v0 v1 &0,1 <2,1", "3", "3", "3");
        size("v0 &0,0 <0,1", "4", "4", "4");
        size("v0 v1 |0,1 <0,2", "3", "3", "3");
        size("v0 v1 |0,1 <1,2", "3", "3", "3");
        size("v0 v1 |0,1 |1,0 <2,3", "6", "6", "6");
        size("v0 v1 *0,1 <2,2", "5", "5", "5");
        size("v0 v1 *0,1 *1,0 <2,3", "none", "5", "5");
        size("v0 v1 *0,1 <2,0", "none", "none", "3");
        size("v0 v1 <0,1 *0,2 <3,1", "5", "5", "5");
        size("v0 v1 <0,1 *2,0 <3,1", "none", "5", "5");
        size("v0 v1 >1,0 *2,0 <3,1", "5", "5", "5");
        size("v0 v1 >1,0 *0,2 <3,1", "none", "5", "5");
        size("v0 v1 *0,1 >2,1 >3,0", "5", "5", "5");
        size("v0 v1 *0,1 >2,0 >3,1", "none", "5", "5");
        size("v0 v1 *0,1 <0,2 <1,3", "5", "5", "5");
        size("v0 v1 *0,1 <1,2 <0,3", "none", "5", "5");
        size("v0 v1 *0,1 >2,1 <0,3", "5", "5", "5");
        size("v0 v1 *0,1 <0,2 >3,1", "5", "5", "5");
        size("v0 v1 <0,1 >2,1 <0,3", "none", "none", "4");
        size("v0 *0,0 <0,1", "none", "none", "none");
        size("v0 1 *1,0 <0,2", "4", "4", "4");
        size("v0 1 <1,0 <2,0", "4", "4", "4");
        size("1 v0 <1,0", "none", "none", "2");
    }

    private static void sizes() {
        // Exchange of two arrows: of p and p under (r over q) to r, with q behind.
        size("v0 v1 v2 >2,1 <0,3 *0,4 *5,1 <6,2", "8", "8", "8");
        // Lifting: p leads to (q over p) under q, and to q over (p under q).
        size("v0 v1 >1,0 <2,1 <0,3", "5", "5", "5");
        size("v0 v1 <0,1 >1,2 <0,3", "5", "5", "5");
        size("v0 v1 <0,1 <2,1 <0,3", "none", "5", "5");
        // Products go over joins: r(p or q) leads to rp or rq.
        size("v0 v1 v2 |0,1 *2,3 *2,0 *2,1 |5,6 <4,7", "11", "11", "11");
        // Meets do not go over joins.
        size("v0 v1 v2 |0,1 &2,3 &2,0 &2,1 |5,6 <4,7", "none", "none", "none");
        // A '1' in the row left out twice, or kept where all is closed.
        size("v0 1 *1,0 *2,1 <3,0", "6", "6", "4");
    }

    /** Each meet asks for the same twice: 2 to the power of 30, less 1; and then more than an int holds. */
    private static void greatSizes() {
        StringBuilder text = new StringBuilder("1");
        for (int i = 0; i < 29; i++) {
            text.append(" &").append(i).append(',').append(i);
        }
        Check.same("a great size", answer('l', text.toString()), String.valueOf((1 << 30) - 1));
        text.append(" &29,29");
        Check.same("the greatest size", answer('w', text.toString()), String.valueOf(Integer.MAX_VALUE));
        text.append(" &30,30");
        Check.same("a size beyond", answer('e', text.toString()), String.valueOf(Integer.MAX_VALUE));
    }

    static void proved(String text, boolean i) {
        Residuary x = new Residuary();
        int formula = Build.all(x, text);
        Check.same("i " + text, x.isProved('i', formula), i);
    }

    private static void logics() {
        proved("1", true);
        proved("0", false);
        proved("0 v0 <0,1", true);
        proved("v0 *0,0 <0,1", true);
        proved("v0 v1 *0,1 &0,1 <2,3", true);
        proved("v0 v1 *0,1 &0,1 <3,2", true);
        proved("v0 v1 <0,1 >1,0 <2,3", true);
        proved("v0 v1 <0,1 >1,0 <3,2", true);
        proved("v0 v1 >0,1 <0,1 <2,3", false);
        proved("v0 v1 v2 |0,1 &2,3 &2,0 &2,1 |5,6 <4,7", true);
        proved("0 v0 <1,0 |1,2", false);
        proved("0 v0 <1,0 |1,2 <3,0 <4,0", true);
        proved("0 v0 <1,0 <2,0 <3,1", false);
        proved("0 v0 <1,0 <2,0 <1,3", true);
        proved("v0 v1 <0,1 <2,0 <3,0", false);
        proved("v0 v1 <0,1 <1,0 |2,3", false);
        proved("1 v0 <0,1 <2,1", true);
        Residuary x = new Residuary();
        int square = Build.all(x, "v0 *0,0");
        Check.isFalse("leads in l", x.leads('l', 0, square));
        Check.isFalse("leads in w", x.leads('w', 0, square));
        Check.isTrue("leads in w, back", x.leads('w', square, 0));
        Check.isFalse("leads in e, back", x.leads('e', square, 0));
        Check.isTrue("leads in i", x.leads('i', 0, square));
        Check.isTrue("leads in i, back", x.leads('i', square, 0));
        Check.isTrue("leads to itself", x.leads('l', square, square));
        int other = x.formula('v', 1, 0);
        Check.isFalse("leads to another one", x.leads('i', square, other));
    }

    /** Formulas with just 300 and 301 unlike sequents. */
    private static void limits() {
        String[] three = {
            "l|none|v0 1 &0,0 >2,2 |2,3 |1,4 *0,5 *2,6 |0,4 >6,7",
            "l|29|v0 &0,0 >1,0 <0,1 >2,1 &4,1 >4,4 >5,5 <6,6",
            "e|none|v0 *0,0 <1,1 *2,1 *3,1 *3,2 *4,5 &0,5 <5,6",
            "e|23|v0 v1 <0,1 <2,2 <2,0 >3,2 <5,5 &3,6 <3,6",
            "w|none|v0 *0,0 <1,1 *2,1 *3,1 *3,2 *4,5 &0,5 <5,6",
            "w|8|v0 v1 <0,1 <2,2 <2,0 >3,2 <5,5 &3,6 <3,6",
            "l|gives up|v0 *0,0 &0,1 <2,2 <3,1 *4,3 >3,5 >4,5",
            "l|gives up|v0 v1 &1,0 *1,2 *3,1 >3,4 >5,5",
            "e|gives up|v0 1 |0,0 &2,0 |3,0 *1,3 *5,5 *6,4 >4,7",
            "e|gives up|v0 <0,0 *1,0 >2,1 &3,0 <4,0 |4,4 *4,3 >3,0 >7,7",
            "w|gives up|v0 1 &1,0 <2,0 *0,1 >2,3 |1,5 >2,6 <7,6 &8,5 &5,3 >9,6",
            "w|gives up|v0 v1 &1,1 >0,0 >2,3 <4,4 <5,5 &5,6 >7,0",
        };
        for (String line : three) {
            String[] parts = line.split("\\|", 3);
            Check.same(line, answer(parts[0].charAt(0), parts[2]), parts[1]);
        }
    }

    /** A product of twelve '1' makes a row of twelve, one of thirteen a row too long. */
    private static void longRows() {
        Residuary x = new Residuary();
        x.formula('1', 0, 0);
        for (int i = 1; i < 13; i++) {
            Check.same("a product of " + (i + 1), x.formula('*', i - 1, 0), i);
        }
        for (char logic : new char[] {'l', 'e', 'w'}) {
            Check.isTrue("a row of 12, " + logic, x.leads(logic, 11, 0));
            Check.fails("a row of 13, " + logic, UNSUPPORTED, () -> x.leads(logic, 12, 0));
        }
        // Closed at once, and still what can be come to is counted.
        int zero = x.formula('0', 0, 0);
        int closed = x.formula('*', zero, 12);
        Check.fails("also from those that are closed", UNSUPPORTED, () -> x.leads('l', closed, zero));
        Check.isTrue("'i' keeps no rows", x.leads('i', 7, 0));
    }

    private static void parts() {
        Residuary x = new Residuary();
        x.formula('v', 0, 0);
        for (int i = 1; i < 10; i++) {
            x.formula('&', i - 1, i - 1);
        }
        Check.isFalse("9 parts", x.isProved('i', 8));
        Check.fails("10 parts", UNSUPPORTED, () -> x.isProved('i', 9));
        Check.isTrue("9 parts of both", x.leads('i', 8, 0));
        Check.isTrue("9 parts of both", x.leads('i', 3, 8));
        Check.fails("10 parts of either", UNSUPPORTED, () -> x.leads('i', 9, 0));
        int v1 = x.formula('v', 1, 0);
        Check.fails("10 parts of both", UNSUPPORTED, () -> x.leads('i', 8, v1));
        Check.isFalse("9 parts of both", x.leads('i', 7, v1));
    }

    private static void exceptions() {
        Residuary x = new Residuary();
        x.formula('v', 0, 0);
        Check.fails("isProved, no logic", ARGUMENT, () -> x.isProved('x', 5));
        Check.fails("isProved, no formula", INDEX, () -> x.isProved('i', 1));
        Check.fails("isProved, no formula", INDEX, () -> x.isProved('l', -1));
        Check.fails("proof, no logic", ARGUMENT, () -> x.proof('i', 5));
        Check.fails("proof, no logic", ARGUMENT, () -> x.proof('h', 0));
        Check.fails("proof, no formula", INDEX, () -> x.proof('l', 1));
        Check.fails("proof, none", ELEMENT, () -> x.proof('l', 0));
        Check.fails("leads, no logic", ARGUMENT, () -> x.leads('g', 5, 5));
        Check.fails("leads, no formula", INDEX, () -> x.leads('e', 0, 1));
        Check.fails("leads, no formula", INDEX, () -> x.leads('e', 1, 0));
    }

    /** Against the rules as plainly as the document says them. */
    private static void compared() {
        Draw draw = new Draw(7);
        for (int round = 0; round < 700; round++) {
            Residuary x = new Residuary();
            PlainSearch plain = new PlainSearch();
            List<Integer> made = new ArrayList<>();
            int variables = 1 + draw.below(3);
            for (int i = 0; i < variables; i++) {
                made.add(plain.add(x, 'v', i, 0));
            }
            if (draw.below(2) == 0) {
                made.add(plain.add(x, '0', 0, 0));
            }
            if (draw.below(2) == 0) {
                made.add(plain.add(x, '1', 0, 0));
            }
            String kinds = draw.below(3) == 0 ? "<>*" : "&|*<>";
            for (int i = 2 + draw.below(9); i > 0; i--) {
                made.add(plain.add(x, draw.of(kinds), made.get(draw.below(made.size())), made.get(draw.below(made.size()))));
            }
            int formula = made.get(made.size() - 1);
            compare(round, x, plain, made.get(draw.below(made.size())), formula);
            x.chain(draw.of("lgd"), 2 + draw.below(3));
            x.chain('g', 2);
            x.times(0, 1);
            AlgebraTest.oneSided(x);
            Check.isTrue("what is proved is valid, round " + round, x.isTrue());
        }
    }

    private static void compare(int round, Residuary x, PlainSearch plain, int other, int formula) {
        for (char logic : new char[] {'l', 'e', 'w'}) {
            BigInteger due = plain.size(logic, List.of(), formula, 2000);
            String what = "round " + round + " in " + logic;
            if (plain.givesUp()) {
                Check.fails(what, UNSUPPORTED, () -> x.proof(logic, formula));
            } else if (due == null) {
                Check.fails(what, ELEMENT, () -> x.proof(logic, formula));
            } else {
                Check.same(what, x.proof(logic, formula), due.intValueExact());
            }
            BigInteger leads = plain.size(logic, List.of(other), formula, 2000);
            if (plain.givesUp()) {
                Check.fails(what, UNSUPPORTED, () -> x.leads(logic, other, formula));
            } else {
                Check.same(what, x.leads(logic, other, formula), leads != null);
            }
        }
        Set<Object> row = new HashSet<>();
        try {
            Check.same("round " + round + " in i", x.isProved('i', formula), plain.intuitionistic(row, plain.tree(formula)));
            row.add(plain.tree(other));
            Check.same("round " + round + " in i", x.leads('i', other, formula), plain.intuitionistic(row, plain.tree(formula)));
        } catch (UnsupportedOperationException e) {
            Check.isTrue("more than 9 formulas", x.formulas() > 9);
        }
    }

    /** No search leaves anything to the next one: all answers are those of an object that was asked nothing else. */
    private static void oneAfterTheOther() {
        // Of these, 1468 and 1740 show a single row of the hash that is not emptied.
        for (int seed : new int[] {100, 101, 102, 103, 104, 105, 1468, 1740}) {
            Draw draw = new Draw(seed);
            Residuary x = new Residuary();
            int all = mixed(x, seed);
            for (int call = 0; call < 440; call++) {
                char logic = draw.of("lewi");
                int formula = draw.below(all);
                int other = draw.below(all);
                Residuary fresh = new Residuary();
                mixed(fresh, seed);
                String what = logic + " from " + formula + " to " + other + " of " + seed;
                Check.same(what, told(() -> x.leads(logic, formula, other)), told(() -> fresh.leads(logic, formula, other)));
            }
        }
    }

    /** Some forty formulas, most of them short; tells how many. */
    private static int mixed(Residuary x, int seed) {
        Draw draw = new Draw(seed);
        int all = 1 + Build.all(x, "v0 v1 0 1");
        for (int i = 0; i < 45 && all < 40; i++) {
            int below = Math.min(all, 14);
            all = Math.max(all, 1 + x.formula(draw.of("&|*<>"), draw.below(below), draw.below(below)));
        }
        return all;
    }

    private static String told(Check.Call call) {
        try {
            return String.valueOf(call.run());
        } catch (RuntimeException e) {
            return e.getClass().getName();
        }
    }
}
