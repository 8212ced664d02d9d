/** The edges of promises 40 to 43, and of what the terms say on what lies between and on consequence. */
final class BetweenEdges {
    private static final Class<IndexOutOfBoundsException> INDEX = IndexOutOfBoundsException.class;
    private static final Class<IllegalArgumentException> ARGUMENT = IllegalArgumentException.class;
    private static final Class<UnsupportedOperationException> UNSUPPORTED = UnsupportedOperationException.class;
    private static final int[] NONE_OF_ONE = {-1, 1, 12, 40, Integer.MAX_VALUE, Integer.MIN_VALUE};
    private static final int[] NO_SETS_OF_THREE = {8, 9, 16, 1 << 30, Integer.MAX_VALUE, -1, -8, Integer.MIN_VALUE};

    static void all(Sentences s) {
        between(s);
        betweenThrows(s);
        canLieBetween(s);
        follows(s);
        followsThrows(s);
        classes(s);
        classTerms(s);
    }

    private static Residuary oneFormula() {
        return FormulaEdges.oneFormula();
    }

    private static Residuary notRight() {
        return FormulaEdges.notRight();
    }

    /** A chain of three elements; formula 4 is v3 and v1, 5 is v1 or v0, 6 is v3 and v0, 7 is v3 or v0. */
    private static Residuary chain() {
        Residuary x = AlgebraEdges.oneChain();
        Build.all(x, "v0 v1 v2 v3 &3,1 |1,0 &3,0 |3,0");
        return x;
    }

    private static void between(Sentences s) {
        s.says(40, "Returns what is told between two formulas.", () -> {
            Residuary x = chain();
            for (int v1 = 0; v1 < 3; v1++) {
                Check.same("the lower one", x.between(0, 4, 5, false, v1), v1);
                Check.same("the upper one", x.between(0, 4, 5, true, v1), v1);
            }
        });
        s.given(40, "other", () -> {
            Residuary x = chain();
            Check.same("the upper one of v3 or v0, from v0", x.between(0, 0, 7, true, 1), 1);
            Check.same("the upper one of v3 and v0, from v0", x.between(0, 0, 6, true, 1), 0);
            Check.same("the same formula", x.between(0, 0, 0, true, 1), 1);
        });
        s.given(40, "isUpper", () -> {
            Residuary x = chain();
            Check.same("the join of the first one", x.between(0, 6, 0, false, 1), 1);
            Check.same("the join of the first one", x.between(0, 7, 0, false, 1), 2);
            Check.same("the meet of the second one", x.between(0, 0, 6, true, 1), 0);
            Check.same("the meet of the second one", x.between(0, 0, 7, true, 1), 1);
        });
        s.given(40, "values", () -> {
            Residuary x = chain();
            // Both have v0 and v3, which are numbered as 0 and 1: 7 is v0 as 1, v3 as 2.
            for (int values = 0; values < 9; values++) {
                int v0 = values % 3;
                int v3 = values / 3;
                Check.same("v0 and v3", x.between(0, 6, 7, false, values), Math.min(v0, v3));
                Check.same("v0 or v3", x.between(0, 6, 7, true, values), Math.max(v0, v3));
            }
            Check.same("none in common, the first one's join", x.between(0, 0, 1, false, 0), 2);
            Check.same("none in common, the second one's meet", x.between(0, 0, 1, true, 0), 0);
            Check.fails("none in common, and no more", ARGUMENT, () -> x.between(0, 0, 1, false, 1));
            int all = x.formula('&', x.formula('&', 4, 0), 2);
            x.chain('g', 8);
            Check.same("all four in common", x.between(1, all, all, false, 4095), 7);
            Check.same("all four in common, v3 as 6", x.between(1, all, all, true, 4095 - 512), 6);
            Check.fails("and no more", ARGUMENT, () -> x.between(1, all, all, false, 4096));
        });
        s.term("Of two formulas, the first one at most the second one for all values: for values of the variables that both have, all"
                + " others being varied, the join of the first one and the meet of the second one are told.", () -> {
            Residuary x = chain();
            // v3 and v1 is at most v1 or v0; v3 and v0 are varied.
            Check.isTrue("at most", x.isValid(0, x.formula('<', 4, 5)));
            Check.same("the join over v3", x.between(0, 4, 5, false, 2), 2);
            Check.same("the meet over v0", x.between(0, 4, 5, true, 0), 0);
            // A join of values that are not one above the other: v0 with each of the pairs.
            x.chain('g', 2);
            x.times(1, 1);
            int denied = x.formula('<', 0, x.formula('0', 0, 0));
            int never = x.formula('&', 0, denied);
            Check.same("v0 and not v0", x.between(2, never, 1, false, 0), 0);
            Check.same("v0 or not v0", x.between(2, 1, x.formula('|', 0, denied), true, 0), 3);
            x.sum(2, 1);
            Check.same("v0 or not v0, below a greatest one", x.between(3, 1, x.formula('|', 0, denied), true, 0), 3);
        });
    }

    private static void betweenThrows(Sentences s) {
        s.thrown(40, INDEX, () -> {
            for (int number : NONE_OF_ONE) {
                for (boolean isUpper : new boolean[] {false, true}) {
                    Check.fails("algebra " + number, INDEX, () -> oneFormula().between(number, 0, 0, isUpper, 0));
                    Check.fails("formula " + number, INDEX, () -> oneFormula().between(0, number, 0, isUpper, 0));
                    Check.fails("other " + number, INDEX, () -> oneFormula().between(0, 0, number, isUpper, 0));
                    Check.fails("ahead of no values", INDEX, () -> notRight().between(0, 0, number, isUpper, -1));
                }
            }
        });
        s.thrown(40, ARGUMENT, () -> {
            for (int values : new int[] {-1, 3, 9, 27, Integer.MAX_VALUE, Integer.MIN_VALUE}) {
                for (boolean isUpper : new boolean[] {false, true}) {
                    Check.fails("values " + values, ARGUMENT, () -> oneFormula().between(0, 0, 0, isUpper, values));
                    Check.fails("ahead of one that is not right", ARGUMENT, () -> notRight().between(0, 0, 0, isUpper, values));
                }
            }
            Check.fails("v3 is numbered as 0", ARGUMENT, () -> chain().between(0, 3, 4, true, 3));
            Check.same("up to 2", chain().between(0, 3, 4, false, 2), 2);
        });
        s.thrown(40, UNSUPPORTED, () -> {
            Check.fails("lower", UNSUPPORTED, () -> notRight().between(0, 0, 0, false, 2));
            Check.fails("upper", UNSUPPORTED, () -> notRight().between(0, 0, 0, true, 0));
        });
    }

    private static void canLieBetween(Sentences s) {
        s.says(41, "Returns whether, for all values that both have, the join of the first one is at most the meet of the second one.", () -> {
            Residuary x = chain();
            Check.isTrue("v3 and v1 below v1 or v0", x.canLieBetween(0, 4, 5));
            Check.isFalse("v1 or v0 not below v3 and v1", x.canLieBetween(0, 5, 4));
            Check.isFalse("none in common", x.canLieBetween(0, 0, 1));
            Check.isTrue("the same", x.canLieBetween(0, 0, 0));
            int zero = x.formula('0', 0, 0);
            int one = x.formula('1', 0, 0);
            Check.isTrue("from '0'", x.canLieBetween(0, zero, 0));
            Check.isTrue("to '1'", x.canLieBetween(0, 0, one));
            Check.isFalse("to '0'", x.canLieBetween(0, 0, zero));
            Check.isFalse("from '1'", x.canLieBetween(0, one, 0));
            // v0 and not v0 is at most v1 or not v1 in three elements; the join of the one is 1, the meet of the other 1.
            x.chain('l', 4);
            int mean = x.formula('&', 0, x.formula('<', 0, zero));
            int other = x.formula('|', 1, x.formula('<', 1, zero));
            Check.isTrue("of three elements", x.canLieBetween(0, mean, other));
            Check.isTrue("of four elements", x.canLieBetween(1, mean, other));
            Check.isFalse("turned", x.canLieBetween(0, other, x.formula('*', mean, mean)));
            // Just for the last values of all it fails.
            Check.isFalse("v0 to its square times v0", x.canLieBetween(1, 0, x.formula('*', 0, 0)));
        });
        s.thrown(41, INDEX, () -> {
            for (int number : NONE_OF_ONE) {
                Check.fails("algebra " + number, INDEX, () -> oneFormula().canLieBetween(number, 0, 0));
                Check.fails("formula " + number, INDEX, () -> notRight().canLieBetween(0, number, 0));
                Check.fails("other " + number, INDEX, () -> notRight().canLieBetween(0, 0, number));
            }
        });
        s.thrown(41, UNSUPPORTED, () -> Check.fails("not right", UNSUPPORTED, () -> notRight().canLieBetween(0, 0, 0)));
    }

    private static void follows(Sentences s) {
        s.says(42, "Returns whether formulas have another one as a consequence.", () -> {
            Residuary x = AlgebraEdges.oneChain();
            Build.all(x, "v0 v1 <0,1 v3");
            Check.isTrue("detached", x.follows(0, 4, 0, 2, 1));
            Check.isFalse("not from one alone", x.follows(0, 4, 2, 2, 1));
            Check.isFalse("not from the other alone", x.follows(0, 4, 0, 0, 1));
            Check.isFalse("of a variable that only the conclusion has", x.follows(0, 4, 0, 1, 3));
        });
        s.given(42, "designated", () -> {
            Residuary x = AlgebraEdges.oneChain();
            Build.all(x, "v0 0 *0,0");
            boolean[] toSquare = {true, true, false, true, true, true, false, true};
            for (int set = 0; set < 8; set++) {
                Check.same("its square, with " + set, x.follows(0, set, 0, 0, 2), toSquare[set]);
                Check.same("'0', with " + set, x.follows(0, set, 0, 0, 1), (set & 1) != 0 || set == 0);
                Check.isTrue("itself, with " + set, x.follows(0, set, 0, 0, 0));
            }
            x.chain('g', 8);
            Check.isTrue("all of eight", x.follows(1, 255, 0, 0, 1));
            Check.isTrue("none of eight", x.follows(1, 0, 0, 0, 1));
        });
        s.given(42, "other", () -> {
            Residuary x = AlgebraEdges.oneChain();
            Build.all(x, "v0 v1 &0,1");
            Check.isTrue("another one", x.follows(0, 4, 0, 1, 2));
            Check.isFalse("the same", x.follows(0, 4, 0, 0, 2));
            Check.isTrue("turned", x.follows(0, 4, 1, 0, 2));
        });
        s.given(42, "conclusion", () -> {
            Residuary x = AlgebraEdges.oneChain();
            Build.all(x, "v0 v1 |0,1");
            Check.isTrue("the one", x.follows(0, 4, 0, 1, 0));
            Check.isTrue("the other", x.follows(0, 4, 0, 1, 1));
            Check.isTrue("a join", x.follows(0, 4, 0, 0, 2));
            Check.isFalse("from a join", x.follows(0, 4, 2, 2, 0));
        });
        s.term("With an algebra, and a set of designated elements, formulas have another one as a consequence if it is designated"
                + " whenever they all are.", () -> {
            Residuary x = AlgebraEdges.oneChain();
            Build.all(x, "v0 v1 *0,1 &0,1 0 1");
            Check.isTrue("all", x.follows(0, 6, 0, 1, 3));
            Check.isFalse("all, and the product is not", x.follows(0, 6, 0, 1, 2));
            Check.isTrue("never all", x.follows(0, 6, 0, 4, 1));
            Check.isTrue("always", x.follows(0, 4, 0, 0, 5));
            Check.isFalse("never", x.follows(0, 2, 0, 0, 5));
            Check.isFalse("but for the first values", x.follows(0, 1, 0, 0, 5));
            Check.isFalse("but for the last values", x.follows(0, 4, 0, 1, 4));
            Build.all(x, "v2 v3");
            Check.isFalse("of unlike variables", x.follows(0, 4, 6, 7, 0));
            Check.isFalse("of unlike variables, turned", x.follows(0, 4, 0, 1, 6));
        });
    }

    private static void followsThrows(Sentences s) {
        s.thrown(42, INDEX, () -> {
            for (int number : NONE_OF_ONE) {
                Check.fails("algebra " + number, INDEX, () -> oneFormula().follows(number, 0, 0, 0, 0));
                Check.fails("formula " + number, INDEX, () -> notRight().follows(0, -1, number, 0, 0));
                Check.fails("other " + number, INDEX, () -> notRight().follows(0, -1, 0, number, 0));
                Check.fails("conclusion " + number, INDEX, () -> notRight().follows(0, -1, 0, 0, number));
            }
        });
        s.thrown(42, ARGUMENT, () -> {
            for (int set : NO_SETS_OF_THREE) {
                Check.fails("set " + set, ARGUMENT, () -> oneFormula().follows(0, set, 0, 0, 0));
                Check.fails("ahead of one that is not right", ARGUMENT, () -> notRight().follows(0, set, 0, 0, 0));
            }
            Check.isTrue("all of three", oneFormula().follows(0, 7, 0, 0, 0));
        });
        s.thrown(42, UNSUPPORTED, () -> {
            Check.fails("none designated", UNSUPPORTED, () -> notRight().follows(0, 0, 0, 0, 0));
            Check.fails("all designated", UNSUPPORTED, () -> notRight().follows(0, 7, 0, 0, 0));
        });
    }

    private static void classes(Sentences s) {
        s.says(43, "Returns how many classes of elements can be told apart.", () -> {
            Residuary x = new Residuary();
            x.chain('g', 8);
            Check.same("the greatest one", x.classes(0, 128), 8);
            Check.same("the two greatest ones", x.classes(0, 192), 7);
            Check.same("all but 0", x.classes(0, 254), 2);
        });
        s.given(43, "designated", () -> {
            Residuary x = AlgebraEdges.oneChain();
            int[] due = {1, 3, 3, 3, 3, 3, 3, 1};
            for (int set = 0; set < 8; set++) {
                Check.same("with " + set, x.classes(0, set), due[set]);
            }
            x.chain('g', 8);
            Check.same("none of eight", x.classes(1, 0), 1);
            Check.same("all of eight", x.classes(1, 255), 1);
        });
        s.thrown(43, INDEX, () -> {
            for (int algebra : NONE_OF_ONE) {
                Check.fails("algebra " + algebra, INDEX, () -> oneFormula().classes(algebra, 0));
                Check.fails("ahead of another element", INDEX, () -> oneFormula().classes(algebra, -1));
            }
        });
        s.thrown(43, ARGUMENT, () -> {
            for (int set : NO_SETS_OF_THREE) {
                Check.fails("set " + set, ARGUMENT, () -> oneFormula().classes(0, set));
                Check.fails("ahead of one that is not right", ARGUMENT, () -> notRight().classes(0, set));
            }
            Check.same("all of three", oneFormula().classes(0, 7), 1);
        });
        s.thrown(43, UNSUPPORTED, () -> {
            Check.fails("none designated", UNSUPPORTED, () -> notRight().classes(0, 0));
            Check.fails("all designated", UNSUPPORTED, () -> notRight().classes(0, 7));
        });
    }

    private static void classTerms(Sentences s) {
        s.term("Two elements cannot be told apart if the greatest congruence of the algebra, for meet, join, product and arrows, of which"
                + " no class has designated and other elements, has them in one class.", () -> {
            Residuary x = new Residuary();
            x.chain('g', 4);
            Check.same("the two greatest ones in one class", x.classes(0, 12), 3);
            Check.same("all in one class", x.classes(0, 0), 1);
            Check.same("the middle ones alone are no class", x.classes(0, 6), 4);
            x.chain('g', 2);
            x.times(1, 1);
            Check.same("one side of pairs", x.classes(2, 8 + 2), 2);
            Check.same("neither side", x.classes(2, 2 + 4), 4);
            AlgebraTest.oneSided(x);
            AlgebraTest.otherSided(x);
            Check.same("told apart by one side alone", x.classes(3, 8 + 4), 4);
            Check.same("told apart by the other side alone", x.classes(4, 8 + 4), 4);
            // The lesser part keeps its elements apart, the greater one is a class.
            x.chain('l', 3);
            x.sum(5, 5);
            Check.same("a filter in one class", x.classes(6, 4 + 8 + 16), 3);
            Check.same("the greatest one alone", x.classes(6, 16), 5);
        });
    }

    private BetweenEdges() {
    }
}
