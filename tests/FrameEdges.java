/** The edges of promises 31 to 39, and of what the terms say on frames and four values. */
final class FrameEdges {
    private static final Class<IndexOutOfBoundsException> INDEX = IndexOutOfBoundsException.class;
    private static final Class<IllegalArgumentException> ARGUMENT = IllegalArgumentException.class;
    private static final Class<IllegalStateException> STATE = IllegalStateException.class;
    private static final int[] NONE_OF_FIVE = {-1, 5, 6, 31, 32, Integer.MAX_VALUE, Integer.MIN_VALUE};
    private static final int[] NO_VARIABLES = {-1, 4, 5, 32, Integer.MAX_VALUE, Integer.MIN_VALUE};
    private static final int[] NO_FORMULAS = {-1, 1, 39, 40, Integer.MAX_VALUE, Integer.MIN_VALUE};

    static void all(Sentences s) {
        world(s);
        above(s);
        has(s);
        frameTerms(s);
        holds(s);
        holdsTerms(s);
        holdsAlways(s);
        clearFrame(s);
        four(s);
        fourOf(s);
        fourTerms(s);
        isFour(s);
    }

    private static void worlds(Residuary x, int count) {
        for (int i = 0; i < count; i++) {
            x.world();
        }
    }

    /** Five worlds, and v0 as formula 0. */
    private static Residuary five() {
        Residuary x = new Residuary();
        fill(x);
        return x;
    }

    private static void fill(Residuary x) {
        worlds(x, 5);
        x.formula('v', 0, 0);
    }

    private static void world(Sentences s) {
        s.says(31, "Adds a world.", () -> {
            Residuary x = new Residuary();
            for (int i = 0; i < 5; i++) {
                Check.same("its number", x.world(), i);
            }
            Check.same("five", x.clearFrame(), 5);
            Check.same("the first one again", x.world(), 0);
        });
        s.thrown(31, STATE, () -> {
            Portrait.isLeft("a sixth", STATE, FrameEdges::fill, x -> x.world());
            Residuary x = five();
            Check.fails("a sixth", STATE, () -> x.world());
            Check.fails("a sixth, again", STATE, () -> x.world());
            Check.same("still five", x.clearFrame(), 5);
        });
    }

    private static void above(Sentences s) {
        s.says(32, "Puts a world above another one.", () -> {
            Residuary x = five();
            x.has(0, 0);
            Check.isFalse("not yet", x.holds(4, 0));
            x.above(0, 4);
            Check.isTrue("above", x.holds(4, 0));
            Check.isFalse("the others are not", x.holds(3, 0));
        });
        s.given(32, "world", () -> {
            Residuary x = five();
            x.above(1, 2);
            x.has(1, 0);
            Check.isTrue("the one above has what the one below has", x.holds(2, 0));
        });
        s.given(32, "other", () -> {
            Residuary x = five();
            x.above(1, 2);
            x.has(2, 0);
            Check.isFalse("the one below does not have what the one above has", x.holds(1, 0));
        });
        s.says(32, "Returns how many pairs, each world with itself too, are in the order.", () -> {
            Residuary x = new Residuary();
            worlds(x, 2);
            Check.same("two with themselves, and one", x.above(0, 1), 3);
            Check.same("the same again", x.above(0, 1), 3);
            worlds(x, 3);
            Check.same("five with themselves, and one", x.above(0, 1), 6);
            Check.same("two pairs apart", x.above(3, 4), 7);
            Check.same("both pairs joined", x.above(1, 3), 11);
            Check.same("another one above two", x.above(1, 2), 13);
            Check.same("all there can be", x.above(2, 3), 15);
            Check.same("and no more", x.above(0, 4), 15);
        });
        s.thrown(32, INDEX, () -> {
            for (int world : NONE_OF_FIVE) {
                Portrait.isLeft("below " + world, INDEX, FrameEdges::fill, x -> x.above(world, 4));
                Portrait.isLeft("above " + world, INDEX, FrameEdges::fill, x -> x.above(0, world));
                Check.fails("ahead of a number not greater", INDEX, () -> five().above(world, world));
            }
            Check.fails("ahead of a number not greater", INDEX, () -> five().above(5, 0));
            Check.fails("ahead of a number not greater", INDEX, () -> five().above(0, -1));
            Check.fails("none of none", INDEX, () -> new Residuary().above(0, 1));
        });
        s.thrown(32, ARGUMENT, () -> {
            for (int world = 0; world < 5; world++) {
                int same = world;
                Portrait.isLeft("itself " + same, ARGUMENT, FrameEdges::fill, x -> x.above(same, same));
                if (world > 0) {
                    Portrait.isLeft("one less than " + same, ARGUMENT, FrameEdges::fill, x -> x.above(same, same - 1));
                }
                if (world < 4) {
                    Check.same("one more", five().above(same, same + 1), 6);
                }
            }
        });
    }

    private static void has(Sentences s) {
        s.says(33, "Tells that a world has a variable.", () -> {
            Residuary x = five();
            Check.same("one", x.has(3, 0), 1);
            Check.isTrue("it has it", x.holds(3, 0));
            Check.isFalse("no other one", x.holds(4, 0));
            Check.same("again", x.has(3, 0), 1);
            Check.same("a second one", x.has(4, 0), 2);
            Check.same("of another variable", x.has(4, 1), 1);
        });
        s.given(33, "variable", () -> {
            Residuary x = five();
            for (int v = 0; v < 4; v++) {
                Check.same("variable " + v, x.has(v, v), 1);
                Check.same("twice", x.has(v + 1, v), 2);
            }
        });
        s.thrown(33, INDEX, () -> {
            for (int world : NONE_OF_FIVE) {
                Portrait.isLeft("world " + world, INDEX, FrameEdges::fill, x -> x.has(world, 0));
                Check.fails("ahead of no variable", INDEX, () -> five().has(world, 4));
            }
            Check.fails("none of none", INDEX, () -> new Residuary().has(0, 0));
        });
        s.thrown(33, ARGUMENT, () -> {
            for (int variable : NO_VARIABLES) {
                Portrait.isLeft("variable " + variable, ARGUMENT, FrameEdges::fill, x -> x.has(0, variable));
            }
            Check.same("the last one of the last world", five().has(4, 3), 1);
        });
    }

    private static void frameTerms(Sentences s) {
        s.term("There is a frame of at most 5 worlds, numbered from 0, with an order that is kept reflexive and transitive;", () -> {
            Residuary x = new Residuary();
            worlds(x, 3);
            Check.same("with itself", x.above(1, 2), 4);
            Check.same("what is above what is put above", x.above(0, 1), 6);
            Residuary y = new Residuary();
            worlds(y, 5);
            y.above(0, 1);
            y.above(3, 4);
            Check.same("also for what is below", y.above(1, 3), 11);
            Check.same("all but one of five", y.has(0, 2), 4);
        });
        s.term("a world can be above another one only if its number is greater.", () -> {
            Residuary x = five();
            for (int below = 0; below < 5; below++) {
                for (int above = 0; above < 5; above++) {
                    int one = below;
                    int other = above;
                    if (above <= below) {
                        Check.fails(above + " above " + below, ARGUMENT, () -> x.above(one, other));
                    }
                }
            }
            Check.same("and then it is", x.above(3, 4), 6);
        });
        s.term("For each variable, a world can be told to have it;", () -> {
            Residuary x = five();
            Build.all(x, "v1 v2 v3");
            for (int v = 0; v < 4; v++) {
                x.has(v, v);
                for (int i = 0; i < 4; i++) {
                    Check.same("world " + v + " has variable " + i, x.holds(v, i), i == v);
                }
            }
        });
        s.term("those above have it, too, also if they are put there later.", () -> {
            Residuary x = five();
            x.above(0, 1);
            Check.same("those above", x.has(0, 0), 2);
            x.above(1, 2);
            Check.isTrue("put there later", x.holds(2, 0));
            x.above(2, 3);
            x.above(3, 4);
            Check.isTrue("put above those", x.holds(4, 0));
            Check.same("all five", x.has(0, 0), 5);
            Residuary y = five();
            y.has(1, 0);
            y.above(2, 3);
            y.above(1, 2);
            Check.isTrue("what is above the one put above", y.holds(3, 0));
        });
    }

    private static void holds(Sentences s) {
        s.says(34, "Returns whether a world has a formula.", () -> {
            Residuary x = five();
            x.has(2, 0);
            for (int world = 0; world < 5; world++) {
                Check.same("world " + world, x.holds(world, 0), world == 2);
            }
        });
        s.thrown(34, INDEX, () -> {
            for (int world : NONE_OF_FIVE) {
                Check.fails("world " + world, INDEX, () -> five().holds(world, 0));
            }
            for (int formula : NO_FORMULAS) {
                Check.fails("formula " + formula, INDEX, () -> five().holds(0, formula));
            }
            Residuary x = five();
            x.clearFrame();
            Check.fails("no world any more", INDEX, () -> x.holds(0, 0));
            Check.fails("no formula", INDEX, () -> {
                Residuary y = new Residuary();
                y.world();
                return y.holds(0, 0);
            });
        });
    }

    /** Worlds 1 and 2 above world 0; world 1 has v0, world 2 has v1. */
    private static Residuary fork() {
        Residuary x = new Residuary();
        worlds(x, 3);
        x.above(0, 1);
        x.above(0, 2);
        x.has(1, 0);
        x.has(2, 1);
        Build.all(x, "v0 v1 0 1");
        return x;
    }

    private static void held(Residuary x, String text, String due) {
        int formula = Build.all(x, text);
        StringBuilder got = new StringBuilder();
        for (int world = 0; world < due.length(); world++) {
            got.append(x.holds(world, formula) ? 'x' : '.');
        }
        Check.same("worlds that have " + text, got.toString(), due);
    }

    private static void holdsTerms(Sentences s) {
        s.term("A world has '1', and not '0';", () -> {
            held(fork(), "1", "xxx");
            held(fork(), "0", "...");
        });
        s.term("a meet or product if it has both;", () -> {
            held(fork(), "&0,1", "...");
            held(fork(), "*0,1", "...");
            held(fork(), "&0,3", ".x.");
            held(fork(), "*3,1", "..x");
            held(fork(), "*3,3", "xxx");
        });
        s.term("a join if one;", () -> {
            held(fork(), "|0,1", ".xx");
            held(fork(), "|2,0", ".x.");
            held(fork(), "|2,2", "...");
        });
        s.term("an arrow if each world that it has above, itself too, that has the first one has the second one"
                + " ('>': the second one's first).", () -> {
            held(fork(), "<0,1", "..x");
            held(fork(), ">1,0", "..x");
            held(fork(), "<1,0", ".x.");
            held(fork(), ">0,1", ".x.");
            held(fork(), "<0,2", "..x");
            held(fork(), "<2,0", "xxx");
            held(fork(), "<3,0", ".x.");
            held(fork(), ">0,2", "xxx");
            held(fork(), ">2,0", "..x");
            held(fork(), ">0,3", ".x.");
            held(fork(), ">3,0", "xxx");
            Residuary x = fork();
            x.has(0, 2);
            // Itself too: world 0 has '1', and not v0; the worlds above have v0 or v1.
            held(x, "|0,1 <3,4", ".xx");
            held(x, "v2 <6,4", ".xx");
            // Only what is above: world 1 does not look at world 2.
            held(x, "<1,2", ".x.");
        });
    }

    private static void holdsAlways(Sentences s) {
        s.says(35, "Returns whether all worlds have a formula, whatever they are told to have.", () -> {
            Residuary x = new Residuary();
            Build.all(x, "v0 0 <0,1 |0,2 <0,0");
            worlds(x, 1);
            Check.isTrue("v0 or not in one world", x.holdsAlways(3));
            Check.isTrue("itself", x.holdsAlways(4));
            x.has(0, 0);
            Check.isTrue("told", x.holds(0, 0));
            Check.isFalse("whatever is told", x.holdsAlways(0));
            Check.isFalse("whatever is told, denied", x.holdsAlways(2));
            Check.isTrue("it is still told", x.holds(0, 0));
            worlds(x, 2);
            x.above(1, 2);
            Check.isFalse("all worlds, also the last but one", x.holdsAlways(3));
            for (int v = 1; v < 4; v++) {
                int variable = x.formula('v', v, 0);
                int either = x.formula('|', variable, x.formula('<', variable, 1));
                Check.isFalse("variable " + v, x.holdsAlways(variable));
                Check.isFalse("variable " + v + " denied", x.holdsAlways(x.formula('<', variable, 1)));
                Check.isFalse("variable " + v + " or not", x.holdsAlways(either));
                Check.isFalse("two of them", x.holdsAlways(x.formula('<', variable, 0)));
                Check.isFalse("two of them, turned", x.holdsAlways(x.formula('<', 0, variable)));
            }
        });
        s.says(35, "Returns whether they do, true without worlds.", () -> {
            Residuary x = new Residuary();
            Build.all(x, "v0 0 1");
            for (int formula = 0; formula < 3; formula++) {
                Check.isTrue("without worlds, formula " + formula, x.holdsAlways(formula));
            }
            x.world();
            Check.isFalse("v0 with one", x.holdsAlways(0));
            Check.isFalse("'0' with one", x.holdsAlways(1));
            Check.isTrue("'1' with one", x.holdsAlways(2));
            x.clearFrame();
            Check.isTrue("without worlds again", x.holdsAlways(1));
        });
        s.thrown(35, INDEX, () -> {
            for (int formula : NO_FORMULAS) {
                Check.fails("formula " + formula, INDEX, () -> five().holdsAlways(formula));
                Check.fails("also without worlds", INDEX, () -> {
                    Residuary x = five();
                    x.clearFrame();
                    return x.holdsAlways(formula);
                });
            }
        });
    }

    private static void clearFrame(Sentences s) {
        s.says(36, "Takes all worlds away.", () -> {
            Residuary x = five();
            x.above(0, 1);
            for (int v = 0; v < 4; v++) {
                x.has(0, v);
            }
            x.clearFrame();
            Check.fails("none", INDEX, () -> x.holds(0, 0));
            worlds(x, 5);
            for (int v = 0; v < 4; v++) {
                Check.same("nothing told of variable " + v, x.has(4, v), 1);
            }
            Check.same("no order", x.above(3, 4), 6);
            Check.same("nothing above", x.has(0, 0), 2);
            x.clearFrame();
            worlds(x, 3);
            x.above(0, 1);
            x.has(1, 0);
            int arrow = x.formula('<', x.formula('v', 1, 0), 0);
            x.has(2, 1);
            Check.isTrue("an arrow in a new frame", x.holds(0, arrow));
            Check.isFalse("an arrow in a new frame", x.holds(2, arrow));
            x.clearFrame();
            worlds(x, 3);
            x.above(0, 2);
            x.has(2, 1);
            Check.isFalse("an arrow in another one", x.holds(0, arrow));
            Check.isTrue("an arrow in another one", x.holds(1, arrow));
        });
        s.says(36, "Returns how many there were.", () -> {
            Residuary x = new Residuary();
            for (int i = 0; i <= 5; i++) {
                worlds(x, i);
                Check.same("there were", x.clearFrame(), i);
                Check.same("none any more", x.clearFrame(), 0);
            }
        });
    }

    private static void four(Sentences s) {
        s.says(37, "Sets a variable to one of four values.", () -> {
            Residuary x = new Residuary();
            char before = 'n';
            for (char value : "ftbnbtfn".toCharArray()) {
                Check.same("the one before " + value, x.four(2, value), before);
                before = value;
            }
        });
        s.given(37, "variable", () -> {
            Residuary x = new Residuary();
            for (int v = 0; v < 4; v++) {
                Check.same("at first, variable " + v, x.four(v, "nftb".charAt(v)), 'n');
            }
            for (int v = 0; v < 4; v++) {
                Check.same("each has its own, variable " + v, x.four(v, 'n'), "nftb".charAt(v));
            }
        });
        s.given(37, "value", () -> {
            Residuary x = new Residuary();
            x.formula('v', 0, 0);
            for (char value : "nftb".toCharArray()) {
                x.four(0, value);
                Check.same("the value " + value, x.fourOf(0), value);
            }
        });
        s.thrown(37, ARGUMENT, () -> {
            for (int variable : NO_VARIABLES) {
                Portrait.isLeft("variable " + variable, ARGUMENT, x -> x.four(0, 't'), x -> x.four(variable, 'b'));
            }
            for (char value : new char[] {'x', 'N', 'v', '0', 0, 'n' + 256, Character.MAX_VALUE}) {
                Portrait.isLeft("value " + (int) value, ARGUMENT, x -> x.four(0, 't'), x -> x.four(0, value));
            }
            Check.same("the last ones", new Residuary().four(3, 'b'), 'n');
        });
    }

    private static void fourOf(Sentences s) {
        s.says(38, "Returns one of four values of a formula.", () -> {
            Residuary x = new Residuary();
            Build.all(x, "v0 v3 &0,1 |0,1");
            x.four(0, 'b');
            x.four(3, 'n');
            Check.same("both and none", x.fourOf(2), 'f');
            Check.same("both or none", x.fourOf(3), 't');
        });
        s.thrown(38, INDEX, () -> {
            for (int formula : NO_FORMULAS) {
                Check.fails("formula " + formula, INDEX, () -> five().fourOf(formula));
            }
        });
    }

    private static void fourTerms(Sentences s) {
        s.term("Each variable has a value 'n' none, 'f', 't' or 'b' both, 'n' at first, seen as two bits, true and false: meet and product"
                + " have both true, either false;", () -> {
            Residuary x = new Residuary();
            Build.all(x, "v0 v1 v2 v3 &0,1 *0,1");
            for (int v = 0; v < 4; v++) {
                Check.same("at first", x.fourOf(v), 'n');
            }
            paired(x, 4, "nfnf ffff nftb ffbb");
            paired(x, 5, "nfnf ffff nftb ffbb");
        });
        s.term("join the other way round;", () -> {
            Residuary x = new Residuary();
            Build.all(x, "v0 v1 |0,1");
            paired(x, 2, "nntt nftb tttt tbtb");
        });
        s.term("'0' is 'f', '1' is 't';", () -> {
            Residuary x = new Residuary();
            Build.all(x, "0 1");
            Check.same("'0'", x.fourOf(0), 'f');
            Check.same("'1'", x.fourOf(1), 't');
        });
        s.term("an arrow from p to q, the second to the first one for '>', is q where p is true, perhaps both, 't' elsewhere.", () -> {
            Residuary x = new Residuary();
            Build.all(x, "v0 v1 <0,1 >1,0 >0,1");
            paired(x, 2, "tttt tttt nftb nftb");
            paired(x, 3, "tttt tttt nftb nftb");
            paired(x, 4, "ttnn ttff tttt ttbb");
        });
    }

    /** Of v0 as n, f, t and b, of v1 likewise. */
    private static void paired(Residuary x, int formula, String due) {
        String letters = "nftb";
        String[] rows = due.split(" ");
        for (int i = 0; i < 4; i++) {
            for (int j = 0; j < 4; j++) {
                x.four(0, letters.charAt(i));
                x.four(1, letters.charAt(j));
                Check.same("of " + letters.charAt(i) + " and " + letters.charAt(j), x.fourOf(formula), rows[i].charAt(j));
            }
        }
    }

    private static void isFour(Sentences s) {
        s.says(39, "Returns whether a formula is true, perhaps both, for all of four values.", () -> {
            Residuary x = new Residuary();
            Build.all(x, "v0 0 <0,0 <0,1 |0,3 1 v3 <6,1 |6,7 &0,3 &4,8 |6,3");
            Check.isTrue("itself", x.isFour(2));
            Check.isTrue("v0 or not", x.isFour(4));
            Check.isTrue("perhaps both: that of v0 and of v3", x.isFour(10));
            Check.isTrue("'1'", x.isFour(5));
            Check.isFalse("'0'", x.isFour(1));
            Check.isFalse("v0", x.isFour(0));
            Check.isFalse("v0 and not", x.isFour(9));
            Check.isFalse("the last variable, or v0 denied", x.isFour(11));
            for (int choice = 0; choice < 16; choice++) {
                Check.isFalse("but for choice " + choice, isFourBut(choice));
            }
            x.four(0, 't');
            Check.isFalse("whatever it is set to", x.isFour(0));
            Check.same("which stays", x.fourOf(0), 't');
        });
        s.thrown(39, INDEX, () -> {
            for (int formula : NO_FORMULAS) {
                Check.fails("formula " + formula, INDEX, () -> five().isFour(formula));
            }
        });
    }

    /** Of a formula that is not true where just the variables of a choice are true. */
    private static boolean isFourBut(int choice) {
        Residuary x = new Residuary();
        Build.all(x, "v0 v1 v2 v3 0 1");
        int all = 5;
        for (int v = 0; v < 4; v++) {
            boolean isOn = (choice >> v & 1) != 0;
            all = x.formula('&', all, isOn ? v : x.formula('<', v, 4));
        }
        return x.isFour(x.formula('<', all, 4));
    }

    private FrameEdges() {
    }
}
