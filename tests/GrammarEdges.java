import java.util.NoSuchElementException;

/** The edges of promises 44 to 50 and 53, and of what the terms say on grammars and grades. */
final class GrammarEdges {
    private static final Class<IndexOutOfBoundsException> INDEX = IndexOutOfBoundsException.class;
    private static final Class<IllegalArgumentException> ARGUMENT = IllegalArgumentException.class;
    private static final Class<IllegalStateException> STATE = IllegalStateException.class;
    private static final Class<UnsupportedOperationException> UNSUPPORTED = UnsupportedOperationException.class;
    private static final Class<NoSuchElementException> ELEMENT = NoSuchElementException.class;
    private static final int[] NO_FACTS = {-1, 10, 11, 32, Integer.MAX_VALUE, Integer.MIN_VALUE};
    private static final int[] NO_GRADES = {-1, 101, 1000, Integer.MAX_VALUE, Integer.MIN_VALUE};
    private static final char[] NO_GRADINGS = {'x', 'd', 'h', 'L', 0, 'l' + 256, Character.MAX_VALUE};

    static void all(Sentences s) {
        word(s);
        wordThrows(s);
        say(s);
        parse(s);
        parseTerms(s);
        clearSentence(s);
        fact(s);
        rule(s);
        ruleThrows(s);
        grade(s);
        gradeTerms(s);
        meanGrade(s);
        exceptions(s);
    }

    /** Formulas v0, v1 and v2, and so many words of v0. */
    private static void words(Residuary x, int count) {
        Build.all(x, "v0 v1 v2");
        for (int i = 0; i < count; i++) {
            x.word(i, 0);
        }
    }

    private static Residuary withWords(int count) {
        Residuary x = new Residuary();
        words(x, count);
        return x;
    }

    private static void word(Sentences s) {
        s.says(44, "Adds a word, or a formula to a word.", () -> {
            Residuary x = withWords(0);
            for (int i = 0; i < 8; i++) {
                Check.same("a word", x.word(i, i % 3), 1);
                Check.same("a formula to it", x.word(i, (i + 1) % 3), 2);
            }
        });
        s.given(44, "word", () -> {
            Residuary x = withWords(3);
            Check.same("the first word", x.word(0, 1), 2);
            Check.same("the last word", x.word(2, 1), 2);
            Check.same("the number of words for a new one", x.word(3, 1), 1);
            Check.same("which is one then", x.say(3), 1);
        });
        s.term("At most 8 words are numbered from 0, each with up to 2 formulas.", () -> {
            Residuary x = withWords(8);
            for (int i = 0; i < 8; i++) {
                int word = i;
                Check.same("a second formula", x.word(i, 1), 2);
                Check.fails("no third one", STATE, () -> x.word(word, 2));
            }
            Check.fails("no ninth word", STATE, () -> x.word(8, 0));
        });
    }

    private static void wordThrows(Sentences s) {
        s.thrown(44, INDEX, () -> {
            for (int word : new int[] {-1, 4, 8, 9, Integer.MAX_VALUE, Integer.MIN_VALUE}) {
                Portrait.isLeft("word " + word, INDEX, x -> words(x, 3), x -> x.word(word, 1));
            }
            for (int formula : new int[] {-1, 3, 40, Integer.MAX_VALUE, Integer.MIN_VALUE}) {
                Portrait.isLeft("formula " + formula + ", a new word", INDEX, x -> words(x, 3), x -> x.word(3, formula));
                Portrait.isLeft("formula " + formula, INDEX, x -> words(x, 3), x -> x.word(0, formula));
                Check.fails("ahead of 8 words", INDEX, () -> withWords(8).word(8, formula));
            }
            Check.fails("not the next one, ahead of 8 words", INDEX, () -> withWords(8).word(9, 0));
            Check.fails("no formula, ahead of two of them", INDEX, () -> {
                Residuary x = withWords(1);
                x.word(0, 1);
                return x.word(0, 3);
            });
        });
        s.thrown(44, UNSUPPORTED, () -> {
            Portrait.isLeft("its only one", UNSUPPORTED, x -> words(x, 8), x -> x.word(7, 0));
            Residuary x = withWords(1);
            x.word(0, 2);
            Check.fails("its first one, ahead of two of them", UNSUPPORTED, () -> x.word(0, 0));
            Check.fails("its second one, ahead of two of them", UNSUPPORTED, () -> x.word(0, 2));
            Check.same("that of another word", x.word(1, 2), 1);
        });
        s.thrown(44, STATE, () -> {
            Portrait.isLeft("a ninth word", STATE, x -> words(x, 8), x -> x.word(8, 1));
            Portrait.isLeft("a third formula", STATE, x -> {
                words(x, 2);
                x.word(1, 1);
            }, x -> x.word(1, 2));
            Check.same("an eighth word", withWords(7).word(7, 1), 1);
        });
    }

    private static void say(Sentences s) {
        s.says(45, "Says a word.", () -> {
            Residuary x = withWords(2);
            for (int i = 1; i <= 6; i++) {
                Check.same("words said", x.say(i % 2), i);
            }
        });
        s.thrown(45, INDEX, () -> {
            for (int word : new int[] {-1, 2, 8, Integer.MAX_VALUE, Integer.MIN_VALUE}) {
                Portrait.isLeft("word " + word, INDEX, x -> words(x, 2), x -> x.say(word));
            }
            Check.fails("none of none", INDEX, () -> new Residuary().say(0));
            Residuary x = withWords(1);
            sayOften(x, 6);
            Check.fails("ahead of 6 words", INDEX, () -> x.say(1));
        });
        s.thrown(45, STATE, () -> {
            Portrait.isLeft("a seventh", STATE, x -> {
                words(x, 1);
                sayOften(x, 6);
            }, x -> x.say(0));
            Residuary x = withWords(1);
            sayOften(x, 5);
            Check.same("a sixth", x.say(0), 6);
            Check.fails("a seventh", STATE, () -> x.say(0));
            Check.same("still six", x.clearSentence(), 6);
        });
    }

    private static void sayOften(Residuary x, int times) {
        for (int i = 0; i < times; i++) {
            x.say(0);
        }
    }

    private static void parse(Sentences s) {
        s.says(46, "Returns in how many ways the sentence is of a kind.", () -> {
            Residuary x = withWords(1);
            x.say(0);
            Check.same("one", x.parse(0), 1);
            Check.same("none", x.parse(1), 0);
            x.word(0, 1);
            Check.same("still one", x.parse(0), 1);
            Check.same("now one", x.parse(1), 1);
            Check.same("two", x.parse(x.formula('|', 0, 1)), 2);
        });
        s.thrown(46, INDEX, () -> {
            for (int formula : new int[] {-1, 3, 40, Integer.MAX_VALUE, Integer.MIN_VALUE}) {
                Check.fails("formula " + formula + ", ahead of an empty sentence", INDEX, () -> withWords(1).parse(formula));
                Check.fails("formula " + formula, INDEX, () -> {
                    Residuary x = withWords(1);
                    x.say(0);
                    return x.parse(formula);
                });
            }
        });
        s.thrown(46, ELEMENT, () -> {
            Residuary x = withWords(1);
            Check.fails("nothing said", ELEMENT, () -> x.parse(0));
            x.say(0);
            x.clearSentence();
            Check.fails("cleared", ELEMENT, () -> x.parse(0));
            Check.fails("also for '1', to which nothing leads", ELEMENT, () -> x.parse(x.formula('1', 0, 0)));
        });
        s.thrown(46, UNSUPPORTED, () -> {
            Residuary x = new Residuary();
            x.formula('1', 0, 0);
            for (int i = 1; i < 13; i++) {
                x.formula('*', i - 1, 0);
            }
            x.word(0, 0);
            x.word(0, 12);
            x.word(1, 12);
            x.word(1, 0);
            x.word(2, 11);
            x.say(0);
            Check.fails("the second choice gives up", UNSUPPORTED, () -> x.parse(0));
            x.clearSentence();
            x.say(1);
            Check.fails("the first choice gives up", UNSUPPORTED, () -> x.parse(0));
            x.clearSentence();
            x.say(2);
            Check.same("twelve in a row", x.parse(0), 1);
            x.say(2);
            Check.fails("thirteen in a row", UNSUPPORTED, () -> x.parse(0));
            x.clearSentence();
            x.say(2);
            Check.fails("by the formula itself", UNSUPPORTED, () -> x.parse(x.formula('<', 2, 0)));
        });
    }

    private static void parseTerms(Sentences s) {
        s.term("A sentence of at most 6 words, said one by one, is of a kind, a formula, in as many ways as there are choices of a formula"
                + " for each word such that they lead to it in 'l', in this order.", () -> {
            Residuary x = new Residuary();
            // A word of '1' and of v0: six of them are v0 in six ways, and '1' in one.
            Build.all(x, "1 v0 *1,1");
            x.word(0, 0);
            x.word(0, 1);
            int[] twice = {0, 1, 3, 6, 10, 15};
            for (int i = 1; i <= 6; i++) {
                x.say(0);
                Check.same("one of " + i, x.parse(1), i);
                Check.same("none of " + i, x.parse(0), 1);
                Check.same("two of " + i, x.parse(2), twice[i - 1]);
            }
            Check.same("all 64", x.parse(x.formula('0', 0, 0)), 0);
            Residuary y = new Residuary();
            Build.all(y, "v0 v1 *0,1 *1,0 <0,1 0");
            y.word(0, 0);
            y.word(1, 1);
            y.say(0);
            y.say(1);
            Check.same("in this order", y.parse(2), 1);
            Check.same("not in the other one", y.parse(3), 0);
            Check.same("none left out", y.parse(0), 0);
            y.clearSentence();
            y.word(2, 4);
            y.say(0);
            y.say(2);
            Check.same("name and verb", y.parse(1), 1);
            y.clearSentence();
            y.say(2);
            y.say(0);
            Check.same("verb and name", y.parse(1), 0);
            y.word(3, 5);
            y.word(3, 0);
            y.say(3);
            // Of the two formulas of the last word, '0' leads to all.
            Check.same("'0' in a sentence", y.parse(1), 1);
            Residuary z = new Residuary();
            Build.all(z, "v0 0");
            z.word(0, 1);
            z.word(0, 0);
            for (int i = 0; i < 6; i++) {
                z.say(0);
            }
            Check.same("63 of 64 choices have '0'", z.parse(0), 63);
        });
    }

    private static void clearSentence(Sentences s) {
        s.says(47, "Empties the sentence.", () -> {
            Residuary x = withWords(2);
            x.say(1);
            x.clearSentence();
            Check.fails("empty", ELEMENT, () -> x.parse(0));
            Check.same("the words stay", x.say(1), 1);
            Check.same("and their formulas", x.parse(0), 1);
        });
        s.says(47, "Returns how many words it had.", () -> {
            Residuary x = withWords(1);
            for (int i = 0; i <= 6; i++) {
                sayOften(x, i);
                Check.same("words", x.clearSentence(), i);
                Check.same("none any more", x.clearSentence(), 0);
            }
        });
    }

    private static void fact(Sentences s) {
        s.says(48, "Tells the grade of a fact.", () -> {
            Residuary x = new Residuary();
            Check.same("0 at first", x.fact(0, 100), 0);
            Check.same("the one before", x.fact(0, 1), 100);
            Check.same("the one before", x.fact(0, 0), 1);
            Check.same("the one before", x.fact(0, 0), 0);
        });
        s.given(48, "fact", () -> {
            Residuary x = new Residuary();
            for (int i = 0; i < 10; i++) {
                Check.same("at first", x.fact(i, 10 * i), 0);
            }
            for (int i = 0; i < 10; i++) {
                Check.same("each has its own", x.grade(i, 'g'), 10 * i);
            }
        });
        s.given(48, "grade", () -> {
            Residuary x = new Residuary();
            for (int grade = 0; grade <= 100; grade++) {
                x.fact(9, grade);
                Check.same("grade", x.grade(9, 'p'), grade);
            }
        });
        s.thrown(48, ARGUMENT, () -> {
            for (int fact : NO_FACTS) {
                Portrait.isLeft("fact " + fact, ARGUMENT, x -> x.fact(0, 5), x -> x.fact(fact, 7));
            }
            for (int grade : NO_GRADES) {
                Portrait.isLeft("grade " + grade, ARGUMENT, x -> x.fact(0, 5), x -> x.fact(0, grade));
            }
            Check.same("the last ones", new Residuary().fact(9, 100), 0);
        });
    }

    private static void rule(Sentences s) {
        s.says(49, "Adds a rule.", () -> {
            Residuary x = new Residuary();
            for (int i = 1; i <= 20; i++) {
                Check.same("rules", x.rule(0, -1, 1, 100), i);
            }
        });
        s.given(49, "also", () -> {
            Residuary x = new Residuary();
            x.fact(0, 90);
            x.fact(1, 80);
            x.rule(0, 1, 2, 100);
            x.rule(0, 0, 3, 100);
            x.rule(0, -1, 4, 100);
            Check.same("another one", x.grade(2, 'l'), 70);
            Check.same("the same", x.grade(3, 'l'), 80);
            Check.same("none", x.grade(4, 'l'), 90);
            Check.same("another one, the lesser", x.grade(2, 'g'), 80);
            Check.same("the same, the lesser", x.grade(3, 'g'), 90);
        });
        s.given(49, "grade", () -> {
            Residuary x = new Residuary();
            x.fact(0, 100);
            x.rule(0, -1, 1, 0);
            x.rule(0, -1, 2, 100);
            x.rule(0, -1, 3, 1);
            for (char by : "lgp".toCharArray()) {
                Check.same("0 by " + by, x.grade(1, by), 0);
                Check.same("100 by " + by, x.grade(2, by), 100);
                Check.same("1 by " + by, x.grade(3, by), 1);
            }
        });
        s.term("At most 20 rules.", () -> {
            Residuary x = new Residuary();
            x.fact(0, 100);
            for (int i = 0; i < 20; i++) {
                x.rule(0, -1, 1 + i % 9, i + 1);
            }
            Check.fails("and no more", STATE, () -> x.rule(0, -1, 9, 100));
            Check.same("the twentieth counts", x.grade(2, 'g'), 20);
            Check.same("the one that was refused does not", x.grade(9, 'g'), 18);
        });
    }

    private static void ruleThrows(Sentences s) {
        s.thrown(49, ARGUMENT, () -> {
            for (int fact : NO_FACTS) {
                Portrait.isLeft("from " + fact, ARGUMENT, x -> x.fact(0, 50), x -> x.rule(fact, 0, 1, 99));
                Portrait.isLeft("to " + fact, ARGUMENT, x -> x.fact(0, 50), x -> x.rule(0, 0, fact, 99));
                if (fact != -1) {
                    Portrait.isLeft("also " + fact, ARGUMENT, x -> x.fact(0, 50), x -> x.rule(0, fact, 1, 99));
                }
            }
            Portrait.isLeft("also -2", ARGUMENT, x -> x.fact(0, 50), x -> x.rule(0, -2, 1, 99));
            for (int grade : NO_GRADES) {
                Portrait.isLeft("grade " + grade, ARGUMENT, x -> x.fact(0, 50), x -> x.rule(0, 0, 1, grade));
            }
            Check.same("the last ones", new Residuary().rule(9, 9, 9, 100), 1);
            Residuary full = new Residuary();
            fillRules(full);
            Check.fails("ahead of 20", ARGUMENT, () -> full.rule(0, 0, 1, 101));
            Check.fails("ahead of 20", ARGUMENT, () -> full.rule(0, 0, 10, 100));
            Check.fails("ahead of 20", ARGUMENT, () -> full.rule(0, 10, 1, 100));
            Check.fails("ahead of 20", ARGUMENT, () -> full.rule(10, 0, 1, 100));
        });
        s.thrown(49, STATE, () -> {
            Portrait.isLeft("a rule more", STATE, GrammarEdges::fillRules, x -> x.rule(0, -1, 1, 100));
            Residuary x = new Residuary();
            for (int i = 1; i < 20; i++) {
                x.rule(0, -1, 0, 0);
            }
            Check.same("a twentieth", x.rule(0, -1, 0, 0), 20);
            Check.fails("no more", STATE, () -> x.rule(0, -1, 0, 0));
        });
    }

    private static void fillRules(Residuary x) {
        x.fact(0, 90);
        for (int i = 0; i < 20; i++) {
            x.rule(0, -1, 1, 50);
        }
    }

    private static void grade(Sentences s) {
        s.says(50, "Returns the best grade of a fact.", () -> {
            Residuary x = new Residuary();
            x.fact(0, 60);
            x.rule(0, -1, 1, 90);
            Check.same("as told", x.grade(0, 'l'), 60);
            Check.same("by 'l'", x.grade(1, 'l'), 50);
            Check.same("by 'g'", x.grade(1, 'g'), 60);
            Check.same("by 'p'", x.grade(1, 'p'), 54);
            Check.same("nothing is told by it", x.fact(1, 0), 0);
        });
        s.given(50, "fact", () -> {
            Residuary x = new Residuary();
            x.fact(9, 7);
            Check.same("the first one", x.grade(0, 'g'), 0);
            Check.same("the last one", x.grade(9, 'g'), 7);
        });
        s.given(50, "by", () -> {
            Residuary x = new Residuary();
            x.fact(0, 50);
            x.rule(0, -1, 1, 60);
            Check.same("'l'", x.grade(1, 'l'), 10);
            Check.same("'g'", x.grade(1, 'g'), 50);
            Check.same("'p'", x.grade(1, 'p'), 30);
        });
        s.thrown(50, ARGUMENT, () -> {
            for (int fact : NO_FACTS) {
                Check.fails("fact " + fact, ARGUMENT, () -> new Residuary().grade(fact, 'l'));
            }
            for (char by : NO_GRADINGS) {
                Check.fails("letter " + (int) by, ARGUMENT, () -> new Residuary().grade(0, by));
            }
        });
    }

    private static void gradeTerms(Sentences s) {
        s.term("Facts are variables 0 to 9 with grades from 0 to 100, 0 at first;", () -> {
            Residuary x = new Residuary();
            for (int fact = 0; fact < 10; fact++) {
                for (char by : "lgp".toCharArray()) {
                    Check.same("at first", x.grade(fact, by), 0);
                }
                Check.same("at first", x.fact(fact, 100), 0);
                Check.same("then", x.grade(fact, 'l'), 100);
            }
        });
        s.term("a rule leads from one or two of them to another one with a grade.", () -> {
            Residuary x = new Residuary();
            x.fact(0, 100);
            x.rule(0, -1, 1, 70);
            x.rule(0, 1, 2, 80);
            x.rule(9, -1, 3, 100);
            Check.same("from one", x.grade(1, 'l'), 70);
            Check.same("from two", x.grade(2, 'l'), 50);
            Check.same("from one of grade 0", x.grade(3, 'l'), 0);
            Check.same("not back", x.grade(9, 'l'), 0);
        });
        s.term("What a rule brings is what its grade and those of its facts make by 'l', a plus b less 100, at least 0, 'g', the lesser one,"
                + " or 'p', the product divided by 100, cut, from the left, rule first.", () -> {
            made('l', 50, 50, 100, 0);
            made('l', 51, 50, 100, 1);
            made('l', 49, 50, 100, 0);
            // Cut off at 0 in the middle: 0 and 100 make 0.
            made('l', 10, 10, 100, 0);
            made('g', 30, 31, 32, 30);
            made('g', 32, 30, 31, 30);
            made('g', 31, 32, 30, 30);
            made('p', 99, 99, 100, 98);
            made('p', 9, 11, 100, 0);
            made('p', 10, 10, 100, 1);
            // Rule first: 33 of 35 is 11, of 90 then 9; 35 of 90 is 31, of 33 then 10; all at once 10.
            made('p', 33, 35, 90, 9);
            // The first fact ahead of the second one: 50 of 99 is 49, of 51 then 24; 50 of 51 is 25, of 99 then 24.
            made('p', 70, 70, 99, 48);
            made('p', 70, 99, 70, 48);
            made('p', 90, 55, 21, 10);
            made('p', 90, 21, 55, 9);
        });
        s.term("The best grade of a fact is what can be come to by rules in any number of steps, or as told.", () -> {
            Residuary x = new Residuary();
            // Each rule feeds the one ahead of it: nine steps.
            for (int i = 8; i >= 0; i--) {
                x.rule(i, -1, i + 1, 99);
            }
            x.fact(0, 100);
            Check.same("in nine steps by 'l'", x.grade(9, 'l'), 91);
            Check.same("in nine steps by 'g'", x.grade(9, 'g'), 99);
            x.fact(9, 92);
            Check.same("as told, more", x.grade(9, 'l'), 92);
            x.fact(9, 90);
            Check.same("as told, less", x.grade(9, 'l'), 91);
            x.rule(9, -1, 0, 100);
            Check.same("a ring brings no more", x.grade(0, 'l'), 100);
            x.fact(0, 0);
            Check.same("told less", x.grade(0, 'l'), 90);
            x.fact(9, 0);
            Check.same("and nothing stays of it", x.grade(5, 'g'), 0);
            x.rule(3, 3, 3, 100);
            x.fact(3, 40);
            Check.same("from itself", x.grade(3, 'g'), 40);
        });
    }

    /** What a rule of a grade brings from two facts of grades. */
    private static void made(char by, int rule, int first, int second, int due) {
        Residuary x = new Residuary();
        x.fact(0, first);
        x.fact(1, second);
        x.rule(0, 1, 2, rule);
        Check.same(rule + " with " + first + " and " + second + " by " + by, x.grade(2, by), due);
    }

    private static void meanGrade(Sentences s) {
        s.says(53, "Returns the mean best grade of all ten facts.", () -> {
            Residuary x = new Residuary();
            for (int fact = 0; fact < 10; fact++) {
                x.fact(fact, 100);
            }
            Check.same("all 100", x.meanGrade('l'), 100.0);
            x.fact(0, 0);
            Check.same("one less", x.meanGrade('l'), 90.0);
            x.rule(1, -1, 0, 40);
            Check.same("the best one", x.meanGrade('g'), 94.0);
        });
        s.given(53, "by", () -> {
            Residuary x = new Residuary();
            x.fact(9, 50);
            x.rule(9, -1, 0, 60);
            Check.same("'l'", x.meanGrade('l'), 6.0);
            Check.same("'g'", x.meanGrade('g'), 10.0);
            Check.same("'p'", x.meanGrade('p'), 8.0);
        });
        s.says(53, "Returns the sum divided by 10, both converted to double.", () -> {
            Residuary x = new Residuary();
            for (int sum = 0; sum <= 100; sum++) {
                x.fact(4, sum);
                Check.same("sum " + sum, x.meanGrade('p'), (double) sum / (double) 10);
            }
            x.fact(5, 1);
            Check.same("sum 101", x.meanGrade('p'), 10.1);
        });
        s.thrown(53, ARGUMENT, () -> {
            for (char by : NO_GRADINGS) {
                Check.fails("letter " + (int) by, ARGUMENT, () -> new Residuary().meanGrade(by));
            }
        });
    }

    /** Some of what the tests of each promise show for its own exceptions, of all kinds one after the other. */
    private static void exceptions(Sentences s) {
        s.term("A method that throws an exception changes nothing.", () -> {
            Portrait.isLeft("a word said", STATE, x -> {
                AlgebraEdges.fill(x);
                FormulaEdges.fill(x, 40);
                x.word(0, 0);
                sayOften(x, 6);
                fillRules(x);
                for (int i = 0; i < 5; i++) {
                    x.world();
                }
            }, x -> {
                all(x);
                return x.say(0);
            });
        });
        s.term("If several exceptions apply, the exception listed first is thrown.", () -> {
            Residuary x = AlgebraEdges.notRight();
            x.formula('v', 0, 0);
            x.word(0, 0);
            Check.fails("tell, three", INDEX, () -> x.tell(1, 3, 3, 3));
            Check.fails("make, three", INDEX, () -> x.make(1, 'x', 3, 3));
            Check.fails("make, two", ARGUMENT, () -> x.make(0, 'x', 3, 3));
            Check.fails("value, two", ARGUMENT, () -> x.value(0, 0, 3));
            Check.fails("follows, two", ARGUMENT, () -> x.follows(0, 8, 0, 0, 0));
            Check.fails("refute, two", UNSUPPORTED, () -> x.refute(0, x.formula('1', 0, 0)));
            Check.fails("proof, two", ARGUMENT, () -> x.proof('i', 9));
            Check.fails("parse, two", INDEX, () -> x.parse(9));
            Check.fails("word, two", UNSUPPORTED, () -> {
                x.word(0, 1);
                return x.word(0, 0);
            });
        });
    }

    /** Calls that all throw on an object that is full. */
    private static void all(Residuary x) {
        Check.Call[] calls = {
            () -> x.chain('g', 2), () -> x.times(0, 0), () -> x.sum(0, 0), () -> x.ofFrame(), () -> x.formula('0', 0, 0),
            () -> x.deny(0), () -> x.translate(39), () -> x.world(), () -> x.rule(0, 0, 0, 0), () -> x.word(2, 0),
            () -> x.above(4, 0), () -> x.has(0, 4), () -> x.four(4, 't'), () -> x.fact(10, 5), () -> x.tell(0, 1, 1, 1),
        };
        for (Check.Call call : calls) {
            String thrown = "";
            try {
                call.run();
            } catch (RuntimeException e) {
                thrown = e.getClass().getSimpleName();
            }
            Check.isFalse("a call that throws", thrown.isEmpty());
        }
    }

    private GrammarEdges() {
    }
}
