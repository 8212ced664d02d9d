import java.util.NoSuchElementException;

/** Promises 44 to 51, 53 and 54: grammar, grades, figures. */
public final class GrammarTest {
    private static final Class<IndexOutOfBoundsException> INDEX = IndexOutOfBoundsException.class;
    private static final Class<IllegalArgumentException> ARGUMENT = IllegalArgumentException.class;
    private static final Class<IllegalStateException> STATE = IllegalStateException.class;
    private static final Class<UnsupportedOperationException> UNSUPPORTED = UnsupportedOperationException.class;
    private static final Class<NoSuchElementException> ELEMENT = NoSuchElementException.class;

    public static void main(String[] args) {
        words();
        sentences();
        parses();
        giveUp();
        facts();
        rules();
        grades();
        compared();
        truth();
        Check.end("GrammarTest");
    }

    private static void words() {
        Residuary x = new Residuary();
        Build.all(x, "v0 v1 v2");
        Check.fails("no formula", INDEX, () -> x.word(0, 3));
        Check.fails("not the next one", INDEX, () -> x.word(1, 0));
        Check.same("a new one", x.word(0, 0), 1);
        Check.fails("its own", UNSUPPORTED, () -> x.word(0, 0));
        Check.same("a second formula", x.word(0, 1), 2);
        Check.fails("its own second, ahead of two", UNSUPPORTED, () -> x.word(0, 1));
        Check.fails("a third", STATE, () -> x.word(0, 2));
        Check.fails("no formula first", INDEX, () -> x.word(0, -1));
        for (int i = 1; i < 8; i++) {
            Check.same("a new one", x.word(i, 2), 1);
        }
        Check.fails("a ninth", STATE, () -> x.word(8, 0));
        Check.fails("no formula first", INDEX, () -> x.word(8, 3));
        Check.fails("not the next one", INDEX, () -> x.word(9, 0));
        Check.fails("not the next one", INDEX, () -> x.word(-1, 0));
        Check.same("a second formula of the last one", x.word(7, 0), 2);
    }

    private static void sentences() {
        Residuary x = new Residuary();
        x.formula('v', 0, 0);
        x.word(0, 0);
        for (int i = 1; i <= 6; i++) {
            Check.same("said", x.say(0), i);
        }
        Check.fails("a seventh", STATE, () -> x.say(0));
        Check.fails("no word first", INDEX, () -> x.say(1));
        Check.fails("no word", INDEX, () -> x.say(-1));
        Check.same("cleared", x.clearSentence(), 6);
        Check.same("cleared again", x.clearSentence(), 0);
        Check.same("said", x.say(0), 1);
    }

    private static void parses() {
        Residuary x = new Residuary();
        // v0 is a name, v1 a sentence; 2: name under sentence; 3: that over name; 4: sentence over what 2 is.
        Build.all(x, "v0 v1 <0,1 >2,0 >1,2 <0,0 *0,0 >0,0");
        x.word(0, 0);
        x.word(1, 2);
        x.word(2, 3);
        x.word(3, 4);
        Check.fails("empty", ELEMENT, () -> x.parse(0));
        Check.fails("no formula first", INDEX, () -> x.parse(8));
        x.say(0);
        Check.same("a name is one", x.parse(0), 1);
        Check.same("a name is lifted", x.parse(4), 1);
        Check.same("a name is no sentence", x.parse(1), 0);
        x.say(2);
        Check.same("a name over a name", x.parse(1), 0);
        x.say(0);
        Check.same("name, verb, name", x.parse(1), 1);
        x.clearSentence();
        x.say(3);
        x.say(1);
        Check.same("in this order", x.parse(1), 1);
        x.clearSentence();
        x.say(1);
        x.say(3);
        Check.same("not in the other one", x.parse(1), 0);
        x.clearSentence();
        x.word(1, 0);
        x.word(0, 4);
        x.say(0);
        x.say(1);
        // name and verb, or lifted name and verb; neither with the second name.
        Check.same("two ways", x.parse(1), 2);
        Check.same("two names", x.parse(6), 1);
        x.clearSentence();
        x.word(4, 5);
        x.word(4, 7);
        x.say(4);
        x.say(4);
        // Of the arrows from a name to itself, all four choices come out where they can be told to be the same.
        Check.same("the same word twice, under", x.parse(5), 1);
        Check.same("the same word twice, over", x.parse(7), 1);
        x.clearSentence();
        x.say(4);
        x.say(0);
        Check.same("over ahead of a name", x.parse(0), 1);
        x.clearSentence();
        int one = x.formula('1', 0, 0);
        x.word(5, one);
        x.word(5, 0);
        for (int i = 0; i < 6; i++) {
            x.say(5);
        }
        Check.same("one name of six", x.parse(0), 6);
        Check.same("two names of six", x.parse(6), 15);
        Check.same("no name of six", x.parse(one), 1);
        Check.fails("no formula", INDEX, () -> x.parse(99));
    }

    private static void giveUp() {
        Residuary x = new Residuary();
        x.formula('1', 0, 0);
        for (int i = 1; i < 13; i++) {
            x.formula('*', i - 1, 0);
        }
        x.word(0, 0);
        x.word(0, 12);
        x.say(0);
        Check.fails("any choice", UNSUPPORTED, () -> x.parse(0));
        x.word(1, 0);
        x.clearSentence();
        x.say(1);
        Check.same("another word", x.parse(0), 1);
    }

    private static void facts() {
        Residuary x = new Residuary();
        Check.same("at first", x.fact(0, 100), 0);
        Check.same("the one before", x.fact(0, 0), 100);
        Check.same("the one before", x.fact(0, 7), 0);
        Check.same("the last fact", x.fact(9, 1), 0);
        Check.same("as told", x.grade(0, 'p'), 7);
        Check.fails("no fact", ARGUMENT, () -> x.fact(10, 0));
        Check.fails("no fact", ARGUMENT, () -> x.fact(-1, 0));
        Check.fails("no grade", ARGUMENT, () -> x.fact(0, 101));
        Check.fails("no grade", ARGUMENT, () -> x.fact(0, -1));
        Check.same("as before", x.grade(0, 'l'), 7);
    }

    private static void rules() {
        Residuary x = new Residuary();
        Check.fails("no fact", ARGUMENT, () -> x.rule(-1, 0, 0, 0));
        Check.fails("no fact", ARGUMENT, () -> x.rule(10, 0, 0, 0));
        Check.fails("no fact", ARGUMENT, () -> x.rule(0, -2, 0, 0));
        Check.fails("no fact", ARGUMENT, () -> x.rule(0, 10, 0, 0));
        Check.fails("no fact", ARGUMENT, () -> x.rule(0, 0, -1, 0));
        Check.fails("no fact", ARGUMENT, () -> x.rule(0, 0, 10, 0));
        Check.fails("no grade", ARGUMENT, () -> x.rule(0, 0, 0, -1));
        Check.fails("no grade", ARGUMENT, () -> x.rule(0, 0, 0, 101));
        for (int i = 1; i <= 20; i++) {
            Check.same("rules", x.rule(0, -1, 9, i), i);
        }
        Check.fails("a rule more", STATE, () -> x.rule(0, 0, 0, 0));
        Check.fails("no grade first", ARGUMENT, () -> x.rule(0, 0, 0, 101));
    }

    private static void grades() {
        Residuary x = new Residuary();
        x.fact(0, 90);
        x.fact(1, 75);
        x.rule(0, 1, 2, 95);
        Check.same("l, of two", x.grade(2, 'l'), 60);
        Check.same("g, of two", x.grade(2, 'g'), 75);
        // 95 of 90 are 85, of 75 then 63; the facts first would make 67 and 63, and all at once 64.
        Check.same("p, of two", x.grade(2, 'p'), 63);
        x.rule(0, 0, 3, 99);
        Check.same("l, the same twice", x.grade(3, 'l'), 79);
        Check.same("g, the same twice", x.grade(3, 'g'), 90);
        Check.same("p, the same twice", x.grade(3, 'p'), 80);
        x.rule(0, -1, 4, 99);
        Check.same("l, of one", x.grade(4, 'l'), 89);
        Check.same("p, of one", x.grade(4, 'p'), 89);
        x.fact(5, 20);
        x.rule(1, -1, 5, 30);
        Check.same("as told, where rules bring less", x.grade(5, 'l'), 20);
        Check.same("by a rule, where it brings more", x.grade(5, 'p'), 22);
        x.rule(5, -1, 6, 70);
        Check.same("not below 0", x.grade(6, 'l'), 0);
        Check.same("in two steps", x.grade(6, 'g'), 30);
        // A later rule feeds an earlier one, and a ring brings nothing more.
        x.rule(8, -1, 7, 100);
        x.rule(9, -1, 8, 100);
        x.rule(0, -1, 9, 100);
        x.rule(7, 7, 9, 100);
        Check.same("in three steps, back", x.grade(7, 'l'), 90);
        Check.same("nothing is told by that", x.fact(7, 0), 0);
        // 90, 75, 75, 90, 90, 30, 30, and 90 three times.
        Check.same("mean", x.meanGrade('g'), 75.0);
        Check.same("mean", x.meanGrade('l'), (90 + 75 + 60 + 79 + 89 + 20 + 0 + 270) / 10.0);
        Check.same("mean", x.meanGrade('p'), (90 + 75 + 63 + 80 + 89 + 22 + 15 + 270) / 10.0);
        Check.fails("grade, no fact", ARGUMENT, () -> x.grade(10, 'l'));
        Check.fails("grade, no fact", ARGUMENT, () -> x.grade(-1, 'l'));
        Check.fails("grade, no letter", ARGUMENT, () -> x.grade(0, 'd'));
        Check.fails("meanGrade, no letter", ARGUMENT, () -> x.meanGrade('e'));
        Check.same("mean of a new one", new Residuary().meanGrade('l'), 0.0);
    }

    /** Against steps that are taken many more times than needed. */
    private static void compared() {
        Draw draw = new Draw(13);
        for (int round = 0; round < 200; round++) {
            Residuary x = new Residuary();
            int[] told = new int[10];
            int[][] rules = new int[20][4];
            for (int i = 0; i < 4; i++) {
                int fact = draw.below(10);
                told[fact] = draw.below(101);
                x.fact(fact, told[fact]);
            }
            for (int[] rule : rules) {
                rule[0] = draw.below(10);
                rule[1] = draw.below(11) - 1;
                rule[2] = draw.below(10);
                rule[3] = 50 + draw.below(51);
                x.rule(rule[0], rule[1], rule[2], rule[3]);
            }
            for (char by : "lgp".toCharArray()) {
                int[] best = told.clone();
                for (int step = 0; step < 300; step++) {
                    for (int[] rule : rules) {
                        int brought = apply(by, rule[3], best[rule[0]]);
                        brought = rule[1] < 0 ? brought : apply(by, brought, best[rule[1]]);
                        best[rule[2]] = Math.max(best[rule[2]], brought);
                    }
                }
                int sum = 0;
                for (int i = 0; i < 10; i++) {
                    Check.same("grade by " + by, x.grade(i, by), best[i]);
                    sum += best[i];
                }
                Check.same("mean by " + by, x.meanGrade(by), sum / 10.0);
            }
        }
    }

    private static int apply(char by, int a, int b) {
        switch (by) {
            case 'l':
                return Math.max(0, a + b - 100);
            case 'g':
                return Math.min(a, b);
            default:
                return a * b / 100;
        }
    }

    private static void truth() {
        Residuary x = new Residuary();
        Build.all(x, "v0 v1 *0,1 *1,0 <2,3 <2,0 *0,0 <0,6 <0,1 <1,0 |8,9 0 <11,0");
        AlgebraTest.oneSided(x);
        x.chain('l', 4);
        x.chain('g', 3);
        Check.isTrue("proofs hold", x.isTrue());
        int bad = x.chain('h', 3);
        x.tell(bad, 1, 1, 2);
        Check.isTrue("one that is not right does not count", x.isTrue());
        Check.same("formulas as before", x.formulas(), 13);
        // Of more than 9 signs, and of more than 9 parts.
        for (int i = 13; i < 30; i++) {
            x.formula('<', i - 1, i - 1);
        }
        Check.isTrue("long ones do not count", x.isTrue());
    }
}
