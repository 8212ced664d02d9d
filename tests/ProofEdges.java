import java.util.List;
import java.util.NoSuchElementException;

/** The edges of promises 28 to 30 and 54, and of what the terms say on sequents and bounds. */
final class ProofEdges {
    private static final Class<IndexOutOfBoundsException> INDEX = IndexOutOfBoundsException.class;
    private static final Class<IllegalArgumentException> ARGUMENT = IllegalArgumentException.class;
    private static final Class<UnsupportedOperationException> UNSUPPORTED = UnsupportedOperationException.class;
    private static final Class<NoSuchElementException> ELEMENT = NoSuchElementException.class;
    private static final int[] NONE_OF_ONE = {-1, 1, 39, 40, Integer.MAX_VALUE, Integer.MIN_VALUE};
    private static final char[] NO_LOGICS = {'x', 'g', 'd', 'p', 'L', 0, 'l' + 256, Character.MAX_VALUE};
    private static final char[] SEARCHED = {'l', 'e', 'w'};

    static void all(Sentences s) {
        isProved(s);
        proof(s);
        leads(s);
        closings(s);
        goals(s);
        rows(s);
        arrows(s);
        orders(s);
        sizes(s);
        ofI(s);
        gaveUp(s);
        wideRows(s);
        unlike(s);
        parts(s);
        isTrue(s);
    }

    private static Residuary oneFormula() {
        Residuary x = new Residuary();
        x.formula('v', 0, 0);
        return x;
    }

    /** Products of '1' up to thirteen of them: formula 11 has twelve, formula 12 thirteen. */
    private static Residuary products() {
        Residuary x = new Residuary();
        x.formula('1', 0, 0);
        for (int i = 1; i < 13; i++) {
            x.formula('*', i - 1, 0);
        }
        return x;
    }

    private static void isProved(Sentences s) {
        s.says(28, "Returns whether a formula is proved.", () -> {
            Residuary x = oneFormula();
            Build.all(x, "1 <0,0 *0,0 <3,0 <0,3 0");
            String[] due = {"    ", "lewi", "lewi", "    ", "  wi", "   i", "    "};
            for (int i = 0; i < due.length; i++) {
                for (char logic : "lewi".toCharArray()) {
                    Check.same("formula " + i + " in " + logic, x.isProved(logic, i), due[i].indexOf(logic) >= 0);
                }
            }
            Check.same("none is added", x.formulas(), 7);
        });
        s.given(28, "logic", () -> {
            for (char logic : "lewi".toCharArray()) {
                Check.isFalse("in " + logic, oneFormula().isProved(logic, 0));
            }
        });
        s.thrown(28, ARGUMENT, () -> {
            for (char logic : NO_LOGICS) {
                Check.fails("logic " + (int) logic, ARGUMENT, () -> oneFormula().isProved(logic, 0));
                Check.fails("ahead of no formula", ARGUMENT, () -> oneFormula().isProved(logic, 1));
            }
        });
        s.thrown(28, INDEX, () -> {
            for (int formula : NONE_OF_ONE) {
                for (char logic : "lewi".toCharArray()) {
                    Check.fails("formula " + formula, INDEX, () -> oneFormula().isProved(logic, formula));
                }
            }
        });
        s.thrown(28, UNSUPPORTED, () -> {
            Residuary x = products();
            int arrow = x.formula('<', 12, 0);
            for (char logic : SEARCHED) {
                Check.fails("gives up in " + logic, UNSUPPORTED, () -> x.isProved(logic, arrow));
            }
            Check.isTrue("9 parts", x.isProved('i', 8));
            Check.fails("10 parts", UNSUPPORTED, () -> x.isProved('i', 9));
        });
    }

    private static void proof(Sentences s) {
        s.says(29, "Returns the size of a smallest proof.", () -> {
            ProofTest.size("1", "1", "1", "1");
            ProofTest.size("v0 <0,0", "2", "2", "2");
            // The first join leads to '1' at once, the second one to v0 under itself.
            ProofTest.size("v0 1 <0,0 |2,1 |3,2", "3", "3", "3");
        });
        s.given(29, "logic", () -> {
            Residuary x = products();
            for (char logic : SEARCHED) {
                Check.same("in " + logic, x.proof(logic, 0), 1);
            }
            Check.fails("'i' measures none", ARGUMENT, () -> x.proof('i', 0));
        });
        s.thrown(29, ARGUMENT, () -> {
            for (char logic : NO_LOGICS) {
                Check.fails("logic " + (int) logic, ARGUMENT, () -> products().proof(logic, 0));
                Check.fails("ahead of no formula", ARGUMENT, () -> products().proof(logic, 13));
            }
            Check.fails("'i'", ARGUMENT, () -> products().proof('i', 0));
            Check.fails("'i', ahead of no formula", ARGUMENT, () -> products().proof('i', -1));
            Check.fails("'i', ahead of too many parts", ARGUMENT, () -> products().proof('i', 12));
        });
        s.thrown(29, INDEX, () -> {
            for (int formula : NONE_OF_ONE) {
                for (char logic : SEARCHED) {
                    Check.fails("formula " + formula, INDEX, () -> oneFormula().proof(logic, formula));
                }
            }
        });
        s.thrown(29, UNSUPPORTED, () -> {
            Residuary x = products();
            int arrow = x.formula('<', 12, 0);
            int never = x.formula('<', 12, x.formula('v', 0, 0));
            for (char logic : SEARCHED) {
                Check.fails("gives up in " + logic, UNSUPPORTED, () -> x.proof(logic, arrow));
                Check.fails("ahead of none, in " + logic, UNSUPPORTED, () -> x.proof(logic, never));
            }
        });
        s.thrown(29, ELEMENT, () -> {
            Residuary x = oneFormula();
            Build.all(x, "0 <0,1 *0,0 <0,3");
            for (int formula = 0; formula < 5; formula++) {
                int which = formula;
                for (char logic : SEARCHED) {
                    Check.fails("formula " + which, ELEMENT, () -> x.proof(logic, which));
                }
            }
            Check.same("there is one", x.proof('l', x.formula('<', 1, 0)), 2);
        });
    }

    private static void leads(Sentences s) {
        s.says(30, "Returns whether a formula leads to another one.", () -> {
            Residuary x = oneFormula();
            Build.all(x, "*0,0 1 0");
            for (char logic : "lewi".toCharArray()) {
                Check.isTrue("to itself in " + logic, x.leads(logic, 0, 0));
                Check.isTrue("of two to itself in " + logic, x.leads(logic, 1, 1));
                Check.same("to '1' in " + logic, x.leads(logic, 0, 2), logic == 'w' || logic == 'i');
                Check.isTrue("from '0' in " + logic, x.leads(logic, 3, 0));
                Check.isFalse("to '0' in " + logic, x.leads(logic, 0, 3));
                Check.same("twice to once in " + logic, x.leads(logic, 1, 0), logic == 'w' || logic == 'i');
                Check.same("once to twice in " + logic, x.leads(logic, 0, 1), logic == 'i');
            }
            Check.same("none is added", x.formulas(), 4);
        });
        s.given(30, "logic", () -> {
            for (char logic : "lewi".toCharArray()) {
                Check.isTrue("in " + logic, oneFormula().leads(logic, 0, 0));
            }
        });
        s.thrown(30, ARGUMENT, () -> {
            for (char logic : NO_LOGICS) {
                Check.fails("logic " + (int) logic, ARGUMENT, () -> oneFormula().leads(logic, 0, 0));
                Check.fails("ahead of no formula", ARGUMENT, () -> oneFormula().leads(logic, 1, 1));
            }
        });
        s.thrown(30, INDEX, () -> {
            for (int formula : NONE_OF_ONE) {
                for (char logic : "lewi".toCharArray()) {
                    Check.fails("formula " + formula, INDEX, () -> oneFormula().leads(logic, formula, 0));
                    Check.fails("other " + formula, INDEX, () -> oneFormula().leads(logic, 0, formula));
                }
            }
            Check.fails("ahead of too many parts", INDEX, () -> products().leads('i', 12, 13));
            Check.fails("ahead of too many parts", INDEX, () -> products().leads('i', 13, 12));
        });
        s.thrown(30, UNSUPPORTED, () -> {
            Residuary x = products();
            for (char logic : SEARCHED) {
                Check.isTrue("twelve in a row in " + logic, x.leads(logic, 11, 0));
                Check.fails("thirteen in a row in " + logic, UNSUPPORTED, () -> x.leads(logic, 12, 0));
            }
            Check.isTrue("9 parts", x.leads('i', 0, 8));
            Check.fails("10 parts", UNSUPPORTED, () -> x.leads('i', 0, 9));
            Check.fails("10 parts", UNSUPPORTED, () -> x.leads('i', 9, 0));
        });
    }

    private static void closings(Sentences s) {
        s.term("A row of formulas leads to a formula.", () -> {
            ProofTest.size("v0 v1 *0,1 *1,0 *2,3 *3,2 <4,5", "none", "11", "11");
            ProofTest.size("v0 v1 *0,1 *1,0 *2,3 <4,4", "11", "11", "11");
        });
        s.term("'0' in the row leads to all;", () -> {
            ProofTest.size("0 v0 <0,1", "2", "2", "2");
            ProofTest.size("0 <0,0", "2", "2", "2");
            ProofTest.size("0 v0 *0,1 <2,1", "3", "3", "3");
            ProofTest.size("0 v0 *1,0 <2,1", "3", "3", "3");
            ProofTest.size("0 v0 v1 *1,0 *3,1 *2,2 <4,5", "4", "4", "4");
            ProofTest.size("0 v0 <1,0", "none", "none", "none");
        });
        s.term("the formula alone to itself, for variables;", () -> {
            ProofTest.size("v3 <0,0", "2", "2", "2");
            ProofTest.size("v0 v1 <0,1", "none", "none", "none");
            ProofTest.size("v0 *0,0 <1,0", "none", "none", "3");
            // Not at once for others: both are taken apart first.
            ProofTest.size("v0 v1 *0,1 <2,2", "5", "5", "5");
            ProofTest.size("v0 v1 <0,1 <2,2", "5", "5", "5");
            ProofTest.size("v0 v1 |0,1 <2,2", "6", "6", "6");
        });
        s.term("nothing to '1';", () -> {
            ProofTest.size("1", "1", "1", "1");
            ProofTest.size("v0 1 <0,1", "none", "none", "2");
            ProofTest.size("0", "none", "none", "none");
        });
        s.term("'1' may be left out of the row;", () -> {
            ProofTest.size("1 v0 *0,1 <2,1", "4", "4", "3");
            ProofTest.size("1 v0 *1,0 <2,1", "4", "4", "3");
            ProofTest.size("1 v0 *0,1 *2,0 <3,1", "6", "6", "4");
            ProofTest.size("1 v0 <0,1", "none", "none", "none");
        });
        s.term("A formula is proved if nothing leads to it.", () -> {
            Residuary x = oneFormula();
            Build.all(x, "1 <0,0");
            Check.isTrue("nothing leads to '1'", x.isProved('l', 1));
            Check.isTrue("nothing leads to v0 under v0", x.isProved('l', 2));
            Check.isFalse("nothing does not lead to v0", x.isProved('l', 0));
            Check.isTrue("v0 leads to v0", x.leads('l', 0, 0));
        });
    }

    private static void goals(Sentences s) {
        s.term("to a meet: to both;", () -> {
            ProofTest.size("1 &0,0", "3", "3", "3");
            ProofTest.size("v0 v1 &0,1 <0,2", "none", "none", "none");
            ProofTest.size("v0 v1 &0,1 <1,2", "none", "none", "none");
            ProofTest.size("v0 1 <0,0 &1,2", "4", "4", "4");
        });
        s.term("to a join: to one of both;", () -> {
            ProofTest.size("1 v0 |0,1", "2", "2", "2");
            ProofTest.size("1 v0 |1,0", "2", "2", "2");
            ProofTest.size("v0 v1 |0,1", "none", "none", "none");
        });
        s.term("to a product of p and q: a beginning of the row, perhaps nothing or all of it, to p and the rest to q;", () -> {
            ProofTest.size("1 *0,0", "3", "3", "3");
            ProofTest.size("v0 1 *1,0 <0,2", "4", "4", "4");
            ProofTest.size("v0 1 *0,1 <0,2", "4", "4", "4");
            ProofTest.size("v0 v1 *0,1 <2,2", "5", "5", "5");
            ProofTest.size("v0 v1 *0,1 *1,0 <2,3", "none", "5", "5");
            ProofTest.size("v0 v1 v2 *0,1 *3,2 *1,2 *0,5 <4,6", "8", "8", "8");
            ProofTest.size("v0 *0,0 <0,1", "none", "none", "none");
        });
        s.term("to p under q: p put ahead of the row leads to q;", () -> {
            ProofTest.size("v0 v1 *0,1 <0,2 <1,3", "5", "5", "5");
            ProofTest.size("v0 v1 *0,1 <1,2 <0,3", "none", "5", "5");
        });
        s.term("to q over p: p put behind it;", () -> {
            ProofTest.size("v0 v1 *0,1 >2,1 >3,0", "5", "5", "5");
            ProofTest.size("v0 v1 *0,1 >2,0 >3,1", "none", "5", "5");
            ProofTest.size("v0 v1 *0,1 >2,1 <0,3", "5", "5", "5");
        });
    }

    private static void rows(Sentences s) {
        s.term("a meet in the row: one of both in its place;", () -> {
            ProofTest.size("v0 v1 &0,1 <2,0", "3", "3", "3");
            ProofTest.size("v0 v1 &0,1 <2,1", "3", "3", "3");
            ProofTest.size("v0 v1 &0,1 *0,1 <2,3", "none", "none", "none");
            // In its place: the second one of three.
            ProofTest.size("v0 v1 v2 &1,2 *0,3 *4,0 *0,2 *6,0 <5,7", "9", "9", "9");
        });
        s.term("a join in the row: each of both in its place;", () -> {
            ProofTest.size("v0 v1 |0,1 <2,0", "none", "none", "none");
            ProofTest.size("v0 v1 |0,1 |1,0 <2,3", "6", "6", "6");
            ProofTest.size("v0 |0,0 <1,0", "4", "4", "4");
            ProofTest.size("v0 v1 v2 |0,1 *2,3 *4,2 *2,0 *6,2 *2,1 *8,2 |7,9 <5,10", "16", "16", "16");
        });
        s.term("a product in the row: both in its place, in this order;", () -> {
            ProofTest.size("v0 v1 *0,1 *1,0 *2,3 *1,1 *0,5 *6,0 <4,7", "11", "11", "11");
            ProofTest.size("v0 v1 *0,1 <2,2", "5", "5", "5");
            ProofTest.size("v0 v1 *1,0 *0,1 <2,3", "none", "5", "5");
        });
    }

    private static void arrows(Sentences s) {
        s.term("p under q in the row: some formulas right ahead of it, perhaps none, lead to p, and the row with q in place of these and"
                + " it leads on;", () -> {
            // None: nothing leads to '1'.
            ProofTest.size("v0 1 <1,0 <2,0", "4", "4", "4");
            // One, two, all of the row ahead.
            ProofTest.size("v0 v1 <0,1 *0,2 <3,1", "5", "5", "5");
            ProofTest.size("v0 v1 *0,0 <2,1 *2,3 <4,1", "8", "8", "8");
            // Right ahead, with others before those and behind it that stay in their places.
            ProofTest.size("v0 v1 v2 <0,1 *2,0 *4,3 *5,2 *2,1 *7,2 <6,8", "11", "11", "11");
            ProofTest.size("v0 v1 v2 <0,1 *0,2 *4,3 *2,1 <5,6", "none", "8", "8");
            // What is behind it does not count.
            ProofTest.size("v0 v1 <0,1 *2,0 <3,1", "none", "5", "5");
        });
        s.term("q over p: likewise with formulas right behind it.", () -> {
            ProofTest.size("v0 1 >0,1 <2,0", "4", "4", "4");
            ProofTest.size("v0 v1 >1,0 *2,0 <3,1", "5", "5", "5");
            ProofTest.size("v0 v1 *0,0 >1,2 *3,2 <4,1", "8", "8", "8");
            ProofTest.size("v0 v1 v2 >1,0 *2,3 *4,0 *5,2 *2,1 *7,2 <6,8", "11", "11", "11");
            ProofTest.size("v0 v1 v2 >1,0 *3,2 *4,0 *1,2 <5,6", "none", "8", "8");
            ProofTest.size("v0 v1 >1,0 *0,2 <3,1", "none", "5", "5");
        });
    }

    private static void orders(Sentences s) {
        s.term("In 'e' and 'w', rows may be put in any order;", () -> {
            ProofTest.size("v0 v1 *0,1 *1,0 <2,3", "none", "5", "5");
            ProofTest.size("v0 v1 v2 *0,1 *3,2 *2,1 *5,0 <4,6", "none", "8", "8");
            ProofTest.size("v0 v1 <0,1 >1,0 <2,3", "none", "5", "5");
            ProofTest.size("v0 v1 <0,1 >1,0 <3,2", "none", "5", "5");
        });
        s.term("in 'w', formulas may be left out, too.", () -> {
            ProofTest.size("v0 v1 *0,1 <2,0", "none", "none", "3");
            ProofTest.size("v0 v1 *0,1 <2,1", "none", "none", "3");
            ProofTest.size("v0 v1 <0,1 <1,2", "none", "none", "3");
            ProofTest.size("v0 *0,0 <0,1", "none", "none", "none");
        });
        s.term("in 'w' leaving out is done as a sequent is closed: by '0' in the row, a variable in it that is the goal, or '1' as the goal;", () -> {
            ProofTest.size("0 v0 v1 *1,0 *3,1 <4,2", "4", "4", "4");
            ProofTest.size("v0 v1 *0,1 *2,1 <3,0", "none", "none", "4");
            ProofTest.size("v0 v1 1 *0,1 <3,2", "none", "none", "2");
            // Never ahead of that: what leads to both is taken apart for both.
            ProofTest.size("v0 v1 *0,1 &0,1 <2,3", "none", "none", "5");
            ProofTest.size("v0 v1 *0,1 *0,1 <2,2", "5", "5", "5");
            // A formula that is no variable is no goal by itself.
            ProofTest.size("v0 v1 v2 &0,1 *3,2 <4,3", "none", "none", "7");
        });
        s.term("and in the parting of a row, each formula goes to one side.", () -> {
            ProofTest.size("v0 v1 *0,1 &0,1 *3,3 <0,2", "none", "none", "none");
            ProofTest.size("v0 *0,0 <0,1", "none", "none", "none");
            ProofTest.size("v0 v1 <0,1 *0,1 <2,3 <0,4", "none", "none", "none");
            // Each of both to either side, also a formula that is there twice.
            ProofTest.size("v0 v1 *0,1 *2,2 *0,0 *1,1 *4,5 <3,6", "none", "11", "11");
            ProofTest.size("v0 v1 *0,0 *2,1 *1,2 <3,4", "none", "8", "8");
            ProofTest.size("v0 v1 *0,0 *2,1 *0,1 *4,0 <3,5", "none", "8", "8");
            ProofTest.size("v0 v1 *0,0 *1,2 <1,3 <0,4 <0,5", "8", "8", "8");
            ProofTest.size("v0 v1 *0,0 *1,2 <0,3 <0,4 <1,5", "none", "8", "8");
            ProofTest.size("v0 v1 *0,0 *1,2 >3,0 >4,0 >5,1", "8", "8", "8");
            // v1 alone, or with one of v0 or both, leads to what an arrow in the row asks for.
            ProofTest.size("v0 v1 v2 *0,0 <1,2 *3,2 <0,5 <0,6 <1,7 <4,8", "11", "11", "11");
            ProofTest.size("v0 v1 v2 *0,0 <1,2 *3,1 *5,4 *3,2 <6,7", "11", "11", "11");
            ProofTest.size("v0 v1 v2 *0,0 *0,1 <4,2 *3,1 *6,5 *0,2 <7,8", "11", "11", "11");
            ProofTest.size("v0 v1 v2 *0,0 *3,1 <4,2 *4,5 <6,2", "11", "11", "11");
        });
    }

    private static void sizes(Sentences s) {
        s.term("The size of a proof is the number of its sequents, each as often as it is needed, all different ways of ordering, and"
                + " leaving out in 'w', counted as none;", () -> {
            // The same one twice, four times, eight times.
            ProofTest.size("1 &0,0 &1,1 &2,2", "15", "15", "15");
            ProofTest.size("v0 <0,0 &1,1 &2,2", "11", "11", "11");
            // Ordering and leaving out are none: as few as without them.
            ProofTest.size("v0 v1 *1,0 *0,1 <2,3", "none", "5", "5");
            ProofTest.size("v0 v1 v2 *0,1 *3,2 <4,2", "none", "none", "3");
            ProofTest.size("v0 v1 v2 *0,1 *3,2 <4,0", "none", "none", "4");
            // The smallest of several: by '0' in the row at once.
            ProofTest.size("0 v0 &1,1 &2,2 *0,3 <4,3", "3", "3", "3");
        });
        s.term("a '1' left out is a sequent more;", () -> {
            ProofTest.size("v0 1 *1,0 <2,0", "4", "4", "3");
            ProofTest.size("1 <0,0", "3", "3", "2");
            ProofTest.size("1 *0,0 <1,0", "5", "5", "2");
            ProofTest.size("1 v0 *0,1 *0,2 *0,3 <4,1", "8", "8", "5");
        });
    }

    private static void ofI(Sentences s) {
        s.term("In 'i', all that and formulas may be used as often as told: product is meet, both arrows are one.", () -> {
            ProofTest.proved("v0 *0,0 <0,1", true);
            ProofTest.proved("v0 v1 *0,1 &0,1 <2,3", true);
            ProofTest.proved("v0 v1 *0,1 &0,1 <3,2", true);
            ProofTest.proved("v0 v1 <0,1 >1,0 <2,3", true);
            ProofTest.proved("v0 v1 <0,1 >1,0 <3,2", true);
            ProofTest.proved("v0 v1 *0,1 <2,0", true);
            ProofTest.proved("v0 1 <0,1", true);
            ProofTest.proved("0 v0 <0,1", true);
            ProofTest.proved("0 v0 <1,0 |1,2", false);
            ProofTest.proved("0 v0 <1,0 |1,2 <3,0 <4,0", true);
            ProofTest.proved("v0 v1 <0,1 <2,0 <3,0", false);
            // Either of both, and what leads to each.
            ProofTest.proved("v0 v1 |0,1 <2,0", false);
            ProofTest.proved("v0 v1 |0,1 |1,0 <2,3", true);
            // Two arrows after one another, numbered against the order in which they are used.
            ProofTest.proved("v2 v1 v0 <1,0 <2,1 &3,4 <2,0 <5,6", true);
            ProofTest.proved("v2 v1 v0 <1,0 <2,1 |3,4 <2,0 <5,6", false);
            // v0 and v0 under (v0 under v1) lead to v1: v0 is used twice.
            ProofTest.proved("v0 v1 <0,1 <0,2 <3,2", true);
            ProofTest.size("v0 v1 <0,1 <0,2 <3,2", "none", "none", "none");
        });
    }

    private static void gaveUp(Sentences s) {
        s.term("A search of 'l', 'e' or 'w' gives up if more than 300 unlike sequents can be come to by the rules, read backward,"
                + " the one asked for counted,", () -> {
            String[] just = {
                "l|v0 &0,0 >1,0 <0,1 >2,1 &4,1 >4,4 >5,5 <6,6|300|29",
                "e|v0 v1 <0,1 <2,2 <2,0 >3,2 <5,5 &3,6 <3,6|300|23",
                "w|v0 v1 <0,1 <2,2 <2,0 >3,2 <5,5 &3,6 <3,6|300|8",
                "l|v0 *0,0 &0,1 <2,2 <3,1 *4,3 >3,5 >4,5|301|gives up",
                "e|v0 1 |0,0 &2,0 |3,0 *1,3 *5,5 *6,4 >4,7|301|gives up",
                "w|v0 v1 &1,1 >0,0 >2,3 <4,4 <5,5 &5,6 >7,0|301|gives up",
            };
            for (String line : just) {
                char logic = line.charAt(0);
                String text = line.substring(2, line.lastIndexOf("|30"));
                String[] ends = line.substring(line.lastIndexOf("|30") + 1).split("\\|");
                Check.same("sequents of " + text, String.valueOf(reached(logic, text, false)), ends[0]);
                Check.same(logic + " " + text, ProofTest.answer(logic, text), ends[1]);
            }
        });
        s.term("also from those that are closed,", () -> {
            String[] closed = {
                "l|v0 0 |0,1 &2,1 &2,0 *4,4 <5,5 >6,2",
                "e|v0 0 *1,0 >1,2 <3,3 <2,4 <5,5",
                "w|v0 0 >1,1 <0,1 >3,1 *4,2 <5,4 <5,6",
            };
            for (String line : closed) {
                char logic = line.charAt(0);
                String text = line.substring(2);
                Check.isTrue("from the others alone not many", reached(logic, text, true) <= 300);
                Check.isTrue("from all more", reached(logic, text, false) > 300);
                Check.same(line, ProofTest.answer(logic, text), "gives up");
            }
        });
    }

    private static int reached(char logic, String text, boolean stopsAtClosed) {
        Residuary x = new Residuary();
        PlainSearch plain = new PlainSearch();
        plain.stopsAtClosed = stopsAtClosed;
        int last = -1;
        for (String part : text.split(" ")) {
            String[] numbers = (part.length() > 1 ? part.substring(1) : "0").split(",");
            last = plain.add(x, part.charAt(0), Integer.parseInt(numbers[0]),
                    numbers.length > 1 ? Integer.parseInt(numbers[1]) : 0);
        }
        plain.size(logic, List.of(), last, 400);
        return plain.reached;
    }

    private static void wideRows(Sentences s) {
        s.term("or one with a row of more than 12 formulas;", () -> {
            Residuary x = new Residuary();
            x.formula('v', 0, 0);
            int under = x.formula('v', 1, 0);
            int over = under;
            for (int i = 1; i <= 13; i++) {
                under = x.formula('<', 0, under);
                over = x.formula('>', over, 0);
                for (char logic : SEARCHED) {
                    int asked = under;
                    int turned = over;
                    if (i <= 12) {
                        Check.isFalse(i + " put ahead, in " + logic, x.isProved(logic, asked));
                        Check.isFalse(i + " put behind, in " + logic, x.isProved(logic, turned));
                    } else {
                        Check.fails(i + " put ahead, in " + logic, UNSUPPORTED, () -> x.isProved(logic, asked));
                        Check.fails(i + " put behind, in " + logic, UNSUPPORTED, () -> x.isProved(logic, turned));
                    }
                }
            }
            Residuary y = products();
            for (char logic : SEARCHED) {
                Check.isTrue("a product of twelve in " + logic, y.leads(logic, 11, 0));
                Check.fails("a product of thirteen in " + logic, UNSUPPORTED, () -> y.leads(logic, 12, 0));
            }
            int zero = y.formula('0', 0, 0);
            int closed = y.formula('*', zero, 12);
            for (char logic : SEARCHED) {
                Check.fails("also from one that is closed, in " + logic, UNSUPPORTED, () -> y.leads(logic, closed, 0));
            }
        });
    }

    private static void unlike(Sentences s) {
        s.term("rows are unlike by their orders in 'l' alone.", () -> {
            // 376 of them by their orders, 193 without them.
            String text = "v0 1 >1,1 *0,2 |0,1 *2,4 >4,5 <5,6";
            Check.same("in 'l'", ProofTest.answer('l', text), "gives up");
            Check.same("in 'l', by their orders", reached('l', text, false), 376);
            // 300 without their orders.
            Check.same("in 'e'", ProofTest.answer('e', "v0 v1 <0,1 <2,2 <2,0 >3,2 <5,5 &3,6 <3,6"), "23");
            // v0 and v1 in their order lead to their product, v1 and v0 do not in 'l'.
            ProofTest.size("v0 v1 *0,1 *1,0 |2,3 <4,2", "none", "10", "10");
        });
    }

    private static void parts(Sentences s) {
        s.term("The logic 'i' is decided if the one or both formulas have together at most 9 parts, themselves counted, unlike by their numbers.", () -> {
            Residuary x = new Residuary();
            FormulaEdges.fill(x, 40);
            Check.isFalse("one of 9, each counted once", x.isProved('i', 8));
            Check.fails("one of 10", UNSUPPORTED, () -> x.isProved('i', 9));
            Check.fails("one of 40", UNSUPPORTED, () -> x.isProved('i', 39));
            Check.isTrue("both of 9, one in the other", x.leads('i', 8, 8));
            Check.isTrue("both of 9, one in the other", x.leads('i', 8, 2));
            Check.isTrue("both of 9, one in the other", x.leads('i', 2, 8));
            Check.fails("both of 10", UNSUPPORTED, () -> x.leads('i', 9, 0));
            Residuary y = new Residuary();
            Build.all(y, "v0 &0,0 &1,1 &2,2 v1 |4,4 |5,5 |6,6 |7,7 |8,8");
            Check.isFalse("4 and 5", y.leads('i', 3, 8));
            Check.isFalse("5 and 4", y.leads('i', 8, 3));
            Check.fails("4 and 6", UNSUPPORTED, () -> y.leads('i', 3, 9));
            Check.fails("6 and 4", UNSUPPORTED, () -> y.leads('i', 9, 3));
            Check.isFalse("6 alone", y.isProved('i', 9));
            // Unlike by their numbers: v0 & v1 and v1 & v0 are two.
            Residuary z = new Residuary();
            Build.all(z, "v0 v1 &0,1 &1,0 *0,1 *1,0 |2,3 |4,5 <6,7 >7,6");
            Check.isTrue("nine, the same said in two ways", z.isProved('i', 8));
            Check.fails("ten", UNSUPPORTED, () -> z.leads('i', 8, 9));
        });
    }

    private static void isTrue(Sentences s) {
        s.says(54, "Checks that each formula of at most 9 signs that is proved in 'w', as far as a search does not give up, is valid in"
                + " each algebra that is right and keeps 'c';", () -> {
            Check.isTrue("of nothing", new Residuary().isTrue());
            Residuary x = new Residuary();
            Build.all(x, "v0 v1 *0,1 *1,0 <2,3 <0,1 >1,0 <5,6 *0,0 <0,8 <2,0");
            Check.isTrue("no algebra", x.isTrue());
            x.chain('l', 4);
            x.chain('g', 3);
            Check.isTrue("those with 'c'", x.isTrue());
            AlgebraTest.oneSided(x);
            Check.isTrue("proved in 'w'", x.isProved('w', 4));
            Check.isFalse("not valid without 'c'", x.isValid(2, 4));
            Check.isTrue("which is not asked for", x.isTrue());
            Check.isTrue("proved in 'i'", x.isProved('i', 9));
            Check.isFalse("not valid without 'i'", x.isValid(0, 9));
            Check.isTrue("which is not asked for", x.isTrue());
            x.tell(2, 1, 1, 3);
            Check.isFalse("one that is not right", x.isRight(2));
            Check.isTrue("is not asked for", x.isTrue());
            // A row of more than 12, which gives up, and 40 formulas.
            for (int i = 11; i < 24; i++) {
                x.formula('<', 0, i - 1);
            }
            Check.fails("a search that gives up", UNSUPPORTED, () -> x.isProved('l', 23));
            Check.isTrue("does not matter", x.isTrue());
            for (int i = 24; i < 40; i++) {
                x.formula('*', i - 1, i - 1);
            }
            Check.fails("too many parts", UNSUPPORTED, () -> x.isProved('i', 39));
            Check.isTrue("do not matter", x.isTrue());
        });
        s.says(54, "Returns whether all of it holds.", () -> {
            Residuary x = new Residuary();
            AlgebraEdges.fill(x);
            Check.isTrue("of 12 algebras", x.isTrue());
            Build.all(x, "1 0 v0 v1 v2 v3 |2,3 |6,4 |7,5 <8,8");
            Check.isTrue("of four variables and more than 9 signs", x.isTrue());
        });
    }

    private ProofEdges() {
    }
}
