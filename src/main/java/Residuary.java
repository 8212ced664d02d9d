import java.util.NoSuchElementException;

/**
 * A registry of logics of many values. Each call looks at its arguments here, in the order in which
 * the document lists the exceptions, and leaves the work to the classes inside, none of which throws.
 */
public final class Residuary {
    private static final int MOST_ALGEBRAS = 12;
    private static final int MOST_ELEMENTS = 8;
    private static final int MOST_FORMULAS = 40;
    private static final int MOST_VARIABLES = 4;
    private static final int MOST_WORLDS = 5;
    private static final int MOST_PARTS = 9;
    private static final int LONGEST_TOLD = 999999;
    private static final int LONGEST_CHECKED = 9;
    private static final int NONE = -1;

    private static final int VARIABLE = 0;
    private static final int ZERO = 1;
    private static final int ONE = 2;
    private static final int MEET = 3;
    private static final int JOIN = 4;
    private static final int PRODUCT = 5;
    private static final int UNDER = 6;
    private static final int OVER = 7;

    private static final char[] KINDS = {'v', '0', '1', '&', '|', '*', '<', '>'};
    private static final char[] CHAINS = {'l', 'g', 'd', 'h'};
    private static final char[] LAWS = {'c', 'i', 'p', 'd', 'n', 'b', 'o'};
    private static final char[] LOGICS = {'l', 'e', 'w', 'i'};
    private static final char[] FOURS = {'n', 'f', 't', 'b'};
    private static final char[] GRADINGS = {'l', 'g', 'p'};

    private final Algebra[] algebras;
    private int algebraCount;
    /** An algebra that is made for one call alone, and made anew by the next one that needs it. */
    private final Algebra trial;
    private final Maps maps;
    private final Congruence congruence;
    private final Formulas store;
    private final Meaning meaning;
    private final Search search;
    private final Saturation saturation;
    private final Frame frame;
    private final FourValues fours;
    private final Grammar grammar;
    private final Grades grades;

    public Residuary() {
        algebras = new Algebra[MOST_ALGEBRAS];
        for (int i = 0; i < MOST_ALGEBRAS; i++) {
            algebras[i] = new Algebra();
        }
        trial = new Algebra();
        maps = new Maps();
        congruence = new Congruence();
        store = new Formulas();
        meaning = new Meaning(store);
        search = new Search(store);
        saturation = new Saturation(store);
        frame = new Frame(store);
        fours = new FourValues(store);
        grammar = new Grammar();
        grades = new Grades();
    }

    // ---- algebras

    public int chain(char kind, int elements) throws IllegalArgumentException, IllegalStateException {
        if (placeIn(CHAINS, kind) < 0 || elements < 2 || elements > MOST_ELEMENTS) {
            throw new IllegalArgumentException("no such kind of chain, or not 2 to 8 elements");
        }
        needRoomForAlgebra();
        algebras[algebraCount].becomeChain(kind, elements);
        return keepNewAlgebra();
    }

    public int tell(int algebra, int one, int other, int product)
            throws IndexOutOfBoundsException, IllegalArgumentException, UnsupportedOperationException {
        Algebra chosen = algebraOf(algebra);
        needElements(chosen, one, other);
        needElements(chosen, product, product);
        if (!chosen.isByHand) {
            throw new UnsupportedOperationException("the algebra is not by hand");
        }
        int before = chosen.combine(PRODUCT, one, other);
        chosen.setProduct(one, other, product);
        chosen.settleProduct();
        return before;
    }

    public int times(int algebra, int other) throws IndexOutOfBoundsException, ArithmeticException, IllegalStateException {
        Algebra left = algebraOf(algebra);
        Algebra right = algebraOf(other);
        needFewElements(left.size * right.size);
        needRoomForAlgebra();
        algebras[algebraCount].becomePairs(left, right);
        return keepNewAlgebra();
    }

    public int sum(int algebra, int other) throws IndexOutOfBoundsException, ArithmeticException, IllegalStateException {
        Algebra lower = algebraOf(algebra);
        Algebra upper = algebraOf(other);
        needFewElements(lower.size - 1 + upper.size);
        needRoomForAlgebra();
        algebras[algebraCount].becomeSum(lower, upper);
        return keepNewAlgebra();
    }

    public int ofFrame() throws NoSuchElementException, ArithmeticException, IllegalStateException {
        if (frame.worlds == 0) {
            throw new NoSuchElementException("there are no worlds");
        }
        frame.listSets(frame.allWorlds());
        needFewElements(frame.setCount);
        needRoomForAlgebra();
        frame.sortSets();
        algebras[algebraCount].becomeSets(frame.sets, frame.setCount);
        return keepNewAlgebra();
    }

    public int elements(int algebra) throws IndexOutOfBoundsException {
        return algebraOf(algebra).size;
    }

    public boolean isRight(int algebra) throws IndexOutOfBoundsException {
        return algebraOf(algebra).isRight;
    }

    public int make(int algebra, char by, int one, int other)
            throws IndexOutOfBoundsException, IllegalArgumentException, UnsupportedOperationException {
        Algebra chosen = algebraOf(algebra);
        int kind = placeIn(KINDS, by);
        if (kind < MEET) {
            throw new IllegalArgumentException("no such operation");
        }
        needElements(chosen, one, other);
        needRight(chosen);
        return chosen.combine(kind, one, other);
    }

    public boolean isBelow(int algebra, int one, int other) throws IndexOutOfBoundsException, IllegalArgumentException {
        Algebra chosen = algebraOf(algebra);
        needElements(chosen, one, other);
        return chosen.isAtMost(one, other);
    }

    public boolean keeps(int algebra, char law)
            throws IndexOutOfBoundsException, IllegalArgumentException, UnsupportedOperationException {
        Algebra chosen = algebraOf(algebra);
        if (placeIn(LAWS, law) < 0) {
            throw new IllegalArgumentException("no such law");
        }
        needRight(chosen);
        return chosen.obeys(law);
    }

    public int filters(int algebra, boolean areNormal) throws IndexOutOfBoundsException, UnsupportedOperationException {
        Algebra chosen = algebraOf(algebra);
        needRight(chosen);
        return chosen.countFilters(areNormal);
    }

    public boolean isSimple(int algebra) throws IndexOutOfBoundsException, UnsupportedOperationException {
        Algebra chosen = algebraOf(algebra);
        needRight(chosen);
        return chosen.countFilters(true) == 2;
    }

    public boolean isOne(int algebra) throws IndexOutOfBoundsException, UnsupportedOperationException {
        Algebra chosen = algebraOf(algebra);
        needRight(chosen);
        return chosen.hasLeastNormalFilter();
    }

    public boolean areAlike(int algebra, int other) throws IndexOutOfBoundsException {
        Algebra left = algebraOf(algebra);
        Algebra right = algebraOf(other);
        return left.size == right.size && maps.canMap(left, right, PRODUCT, PRODUCT);
    }

    public boolean isPart(int algebra, int other) throws IndexOutOfBoundsException, UnsupportedOperationException {
        Algebra inner = algebraOf(algebra);
        Algebra outer = algebraOf(other);
        needRight(inner);
        needRight(outer);
        return maps.canMap(inner, outer, MEET, OVER);
    }

    public int part(int algebra, int elements)
            throws IndexOutOfBoundsException, IllegalArgumentException, UnsupportedOperationException {
        Algebra chosen = algebraOf(algebra);
        needSet(chosen, elements);
        needRight(chosen);
        return chosen.closure(elements);
    }

    public int count(int elements, boolean commutes) throws IllegalArgumentException {
        if (elements < 2 || elements > 5) {
            throw new IllegalArgumentException("not 2 to 5 elements");
        }
        trial.becomeChain('d', elements);
        return countRightProducts(trial, 0, commutes);
    }

    // ---- formulas

    public int formula(char kind, int first, int second)
            throws IllegalArgumentException, IndexOutOfBoundsException, IllegalStateException {
        int code = placeIn(KINDS, kind);
        if (code < 0 || (code == VARIABLE && (first < 0 || first >= MOST_VARIABLES))) {
            throw new IllegalArgumentException("no such kind or variable");
        }
        if (code >= MEET) {
            needFormula(first);
            needFormula(second);
        }
        int number = store.insert(code, first, second);
        if (number < 0) {
            throw new IllegalStateException("there are 40 formulas");
        }
        return number;
    }

    public int length(int formula) throws IndexOutOfBoundsException {
        needFormula(formula);
        return (int) Math.min((long) LONGEST_TOLD, store.signs[formula]);
    }

    public int value(int algebra, int formula, int values)
            throws IndexOutOfBoundsException, IllegalArgumentException, UnsupportedOperationException {
        Algebra chosen = algebraOf(algebra);
        needFormula(formula);
        needValues(values, meaning.choicesOf(chosen, store.variables[formula]));
        needRight(chosen);
        meaning.prepare(store.parts[formula]);
        meaning.give(chosen, values);
        return meaning.evaluate(chosen, formula);
    }

    public boolean isValid(int algebra, int formula) throws IndexOutOfBoundsException, UnsupportedOperationException {
        Algebra chosen = algebraOf(algebra);
        needFormula(formula);
        needRight(chosen);
        return meaning.firstFailure(chosen, formula) < 0;
    }

    public int refute(int algebra, int formula)
            throws IndexOutOfBoundsException, UnsupportedOperationException, NoSuchElementException {
        Algebra chosen = algebraOf(algebra);
        needFormula(formula);
        needRight(chosen);
        int failure = meaning.firstFailure(chosen, formula);
        if (failure < 0) {
            throw new NoSuchElementException("the formula is valid");
        }
        return failure;
    }

    public boolean areSame(int algebra, int formula, int other)
            throws IndexOutOfBoundsException, UnsupportedOperationException {
        Algebra chosen = algebraOf(algebra);
        needFormula(formula);
        needFormula(other);
        needRight(chosen);
        return meaning.areEqual(chosen, formula, other);
    }

    public int fails(char kind, int formula)
            throws IllegalArgumentException, IndexOutOfBoundsException, NoSuchElementException {
        if (placeIn(CHAINS, kind) < 0 || kind == 'h') {
            throw new IllegalArgumentException("no such kind");
        }
        needFormula(formula);
        int fewest = fewestElementsToFail(kind, formula);
        if (fewest < 0) {
            throw new NoSuchElementException("the formula is valid in all of them");
        }
        return fewest;
    }

    public int deny(int formula) throws IndexOutOfBoundsException, IllegalStateException {
        needFormula(formula);
        int before = store.size;
        int number = store.denyTwice(formula);
        if (number < 0) {
            store.size = before;
            throw new IllegalStateException("there would be more than 40 formulas");
        }
        return number;
    }

    public int translate(int formula) throws IndexOutOfBoundsException, IllegalStateException {
        needFormula(formula);
        int before = store.size;
        int number = store.insertTranslation(formula);
        if (number < 0) {
            store.size = before;
            throw new IllegalStateException("there would be more than 40 formulas");
        }
        return number;
    }

    // ---- proofs

    public boolean isProved(char logic, int formula)
            throws IllegalArgumentException, IndexOutOfBoundsException, UnsupportedOperationException {
        needLogic(logic);
        needFormula(formula);
        if (logic == 'i') {
            needFewParts(store.parts[formula]);
            return saturation.isDerived(store.parts[formula], NONE, formula);
        }
        search.clearRow();
        int proofSize = search.smallestProof(logic, formula);
        needFound(proofSize);
        return proofSize > 0;
    }

    public int proof(char logic, int formula)
            throws IllegalArgumentException, IndexOutOfBoundsException, UnsupportedOperationException, NoSuchElementException {
        if (placeIn(LOGICS, logic) < 0 || logic == 'i') {
            throw new IllegalArgumentException("no such logic");
        }
        needFormula(formula);
        search.clearRow();
        int proofSize = search.smallestProof(logic, formula);
        needFound(proofSize);
        if (proofSize == 0) {
            throw new NoSuchElementException("there is no proof");
        }
        return proofSize;
    }

    public boolean leads(char logic, int formula, int other)
            throws IllegalArgumentException, IndexOutOfBoundsException, UnsupportedOperationException {
        needLogic(logic);
        needFormula(formula);
        needFormula(other);
        if (logic == 'i') {
            long parts = store.parts[formula] | store.parts[other];
            needFewParts(parts);
            return saturation.isDerived(parts, formula, other);
        }
        search.clearRow();
        search.push(formula);
        int proofSize = search.smallestProof(logic, other);
        needFound(proofSize);
        return proofSize > 0;
    }

    // ---- frames, four values

    public int world() throws IllegalStateException {
        if (frame.worlds >= MOST_WORLDS) {
            throw new IllegalStateException("there are 5 worlds");
        }
        return frame.insertWorld();
    }

    public int above(int world, int other) throws IndexOutOfBoundsException, IllegalArgumentException {
        needWorld(world);
        needWorld(other);
        if (other <= world) {
            throw new IllegalArgumentException("the number of the world above is not greater");
        }
        return frame.putAbove(world, other);
    }

    public int has(int world, int variable) throws IndexOutOfBoundsException, IllegalArgumentException {
        needWorld(world);
        needVariable(variable);
        return frame.giveVariable(world, variable);
    }

    public boolean holds(int world, int formula) throws IndexOutOfBoundsException {
        needWorld(world);
        needFormula(formula);
        return frame.isForced(world, formula);
    }

    public boolean holdsAlways(int formula) throws IndexOutOfBoundsException {
        needFormula(formula);
        return frame.isForcedAlways(formula);
    }

    public int clearFrame() {
        int before = frame.worlds;
        frame.empty();
        return before;
    }

    public char four(int variable, char value) throws IllegalArgumentException {
        needVariable(variable);
        int bits = placeIn(FOURS, value);
        if (bits < 0) {
            throw new IllegalArgumentException("no such value");
        }
        int before = fours.told[variable];
        fours.told[variable] = bits;
        return FOURS[before];
    }

    public char fourOf(int formula) throws IndexOutOfBoundsException {
        needFormula(formula);
        return FOURS[fours.evaluateTold(formula)];
    }

    public boolean isFour(int formula) throws IndexOutOfBoundsException {
        needFormula(formula);
        return fours.isTrueForAll(formula);
    }

    // ---- between, consequence

    public int between(int algebra, int formula, int other, boolean isUpper, int values)
            throws IndexOutOfBoundsException, IllegalArgumentException, UnsupportedOperationException {
        Algebra chosen = algebraOf(algebra);
        needFormula(formula);
        needFormula(other);
        int common = store.variables[formula] & store.variables[other];
        needValues(values, meaning.spreadsOf(chosen, common));
        needRight(chosen);
        return isUpper ? meaning.bound(chosen, other, common, values, MEET)
                : meaning.bound(chosen, formula, common, values, JOIN);
    }

    public boolean canLieBetween(int algebra, int formula, int other)
            throws IndexOutOfBoundsException, UnsupportedOperationException {
        Algebra chosen = algebraOf(algebra);
        needFormula(formula);
        needFormula(other);
        needRight(chosen);
        return meaning.areBoundsInOrder(chosen, formula, other);
    }

    public boolean follows(int algebra, int designated, int formula, int other, int conclusion)
            throws IndexOutOfBoundsException, IllegalArgumentException, UnsupportedOperationException {
        Algebra chosen = algebraOf(algebra);
        needFormula(formula);
        needFormula(other);
        needFormula(conclusion);
        needSet(chosen, designated);
        needRight(chosen);
        return meaning.isConsequence(chosen, designated, formula, other, conclusion);
    }

    public int classes(int algebra, int designated)
            throws IndexOutOfBoundsException, IllegalArgumentException, UnsupportedOperationException {
        Algebra chosen = algebraOf(algebra);
        needSet(chosen, designated);
        needRight(chosen);
        return congruence.countClasses(chosen, designated);
    }

    // ---- grammar, grades, figures

    public int word(int word, int formula)
            throws IndexOutOfBoundsException, UnsupportedOperationException, IllegalStateException {
        if (word < 0 || word > grammar.words) {
            throw new IndexOutOfBoundsException("no such word, and not the next one");
        }
        needFormula(formula);
        if (grammar.isOfKind(word, formula)) {
            throw new UnsupportedOperationException("the word has this formula");
        }
        if (!grammar.hasRoomFor(word)) {
            throw new IllegalStateException("there are 8 words, or the word has 2 formulas");
        }
        return grammar.giveKind(word, formula);
    }

    public int say(int word) throws IndexOutOfBoundsException, IllegalStateException {
        if (word < 0 || word >= grammar.words) {
            throw new IndexOutOfBoundsException("no such word");
        }
        if (grammar.spoken >= Grammar.LONGEST) {
            throw new IllegalStateException("the sentence has 6 words");
        }
        return grammar.append(word);
    }

    public int parse(int formula) throws IndexOutOfBoundsException, NoSuchElementException, UnsupportedOperationException {
        needFormula(formula);
        if (grammar.spoken == 0) {
            throw new NoSuchElementException("the sentence is empty");
        }
        int ways = 0;
        int choices = grammar.choices();
        for (int choice = 0; choice < choices; choice++) {
            grammar.choose(choice, search);
            int proofSize = search.smallestProof('l', formula);
            needFound(proofSize);
            if (proofSize > 0) {
                ways++;
            }
        }
        return ways;
    }

    public int clearSentence() {
        int before = grammar.spoken;
        grammar.spoken = 0;
        return before;
    }

    public int fact(int fact, int grade) throws IllegalArgumentException {
        needFact(fact);
        needGrade(grade);
        int before = grades.told[fact];
        grades.told[fact] = grade;
        return before;
    }

    public int rule(int from, int also, int to, int grade) throws IllegalArgumentException, IllegalStateException {
        needFact(from);
        if (also != NONE) {
            needFact(also);
        }
        needFact(to);
        needGrade(grade);
        if (grades.rules >= Grades.MOST_RULES) {
            throw new IllegalStateException("there are 20 rules");
        }
        return grades.insertRule(from, also, to, grade);
    }

    public int grade(int fact, char by) throws IllegalArgumentException {
        needFact(fact);
        needGrading(by);
        grades.settle(by);
        return grades.best[fact];
    }

    public int formulas() {
        return store.size;
    }

    public int shareBits(int algebra, int formula) throws IndexOutOfBoundsException, UnsupportedOperationException {
        Algebra chosen = algebraOf(algebra);
        needFormula(formula);
        needRight(chosen);
        int all = meaning.choicesOf(chosen, store.variables[formula]);
        if (all <= 0) {
            return 0;
        }
        return bitsOf((float) meaning.countTop(chosen, formula) / (float) all);
    }

    public double meanGrade(char by) throws IllegalArgumentException {
        needGrading(by);
        grades.settle(by);
        return (double) grades.total() / 10.0;
    }

    public boolean isTrue() {
        for (int i = 0; i < algebraCount; i++) {
            if (algebras[i].isRight && !algebras[i].doArrowsAnswer()) {
                return false;
            }
        }
        for (int formula = 0; formula < store.size; formula++) {
            if (store.signs[formula] <= LONGEST_CHECKED) {
                search.clearRow();
                boolean isForAll = search.smallestProof('l', formula) > 0;
                search.clearRow();
                boolean isForCommuting = search.smallestProof('w', formula) > 0;
                long parts = store.parts[formula];
                boolean isForIdempotent = Long.bitCount(parts) <= MOST_PARTS && saturation.isDerived(parts, NONE, formula);
                if (!isValidWhereProved(formula, isForAll, isForCommuting, isForIdempotent)) {
                    return false;
                }
            }
        }
        return true;
    }

    // ---- what the calls need

    private static int placeIn(char[] letters, char letter) {
        for (int i = 0; i < letters.length; i++) {
            if (letters[i] == letter) {
                return i;
            }
        }
        return NONE;
    }

    private Algebra algebraOf(int number) {
        if (number < 0 || number >= algebraCount) {
            throw new IndexOutOfBoundsException("no such algebra");
        }
        return algebras[number];
    }

    private static void needRight(Algebra algebra) {
        if (!algebra.isRight) {
            throw new UnsupportedOperationException("the algebra is not right");
        }
    }

    private static void needElements(Algebra algebra, int one, int other) {
        if (one < 0 || one >= algebra.size || other < 0 || other >= algebra.size) {
            throw new IllegalArgumentException("no such element");
        }
    }

    private static void needSet(Algebra algebra, int set) {
        if (set < 0 || set > algebra.all()) {
            throw new IllegalArgumentException("another element is among them");
        }
    }

    private static void needFewElements(int elements) {
        if (elements > MOST_ELEMENTS) {
            throw new ArithmeticException("more than 8 elements");
        }
    }

    private void needRoomForAlgebra() {
        if (algebraCount >= MOST_ALGEBRAS) {
            throw new IllegalStateException("there are 12 algebras");
        }
    }

    private int keepNewAlgebra() {
        int number = algebraCount;
        algebraCount++;
        return number;
    }

    private void needFormula(int formula) {
        if (formula < 0 || formula >= store.size) {
            throw new IndexOutOfBoundsException("no such formula");
        }
    }

    private static void needValues(int values, int choices) {
        if (values < 0 || values >= choices) {
            throw new IllegalArgumentException("no such values");
        }
    }

    private static void needLogic(char logic) {
        if (placeIn(LOGICS, logic) < 0) {
            throw new IllegalArgumentException("no such logic");
        }
    }

    private static void needFewParts(long parts) {
        if (Long.bitCount(parts) > MOST_PARTS) {
            throw new UnsupportedOperationException("too many parts");
        }
    }

    private static void needFound(int proofSize) {
        if (proofSize < 0) {
            throw new UnsupportedOperationException("the search gives up");
        }
    }

    private void needWorld(int world) {
        if (world < 0 || world >= frame.worlds) {
            throw new IndexOutOfBoundsException("no such world");
        }
    }

    private static void needVariable(int variable) {
        if (variable < 0 || variable >= MOST_VARIABLES) {
            throw new IllegalArgumentException("no such variable");
        }
    }

    private static void needFact(int fact) {
        if (fact < 0 || fact >= Grades.FACTS) {
            throw new IllegalArgumentException("no such fact");
        }
    }

    private static void needGrade(int grade) {
        if (grade < 0 || grade > Grades.FULL) {
            throw new IllegalArgumentException("no such grade");
        }
    }

    private static void needGrading(char by) {
        if (placeIn(GRADINGS, by) < 0) {
            throw new IllegalArgumentException("no such way of grading");
        }
    }

    // ---- what several calls share

    /** Counts the right products that agree with what is set for the cells ahead of this one. */
    private static int countRightProducts(Algebra chain, int cell, boolean commutes) {
        int inner = chain.size - 2;
        if (inner <= 0 || cell >= inner * inner) {
            chain.settleProduct();
            return chain.isRight && (!commutes || chain.obeys('c')) ? 1 : 0;
        }
        int one = 1 + cell / inner;
        int other = 1 + cell % inner;
        // A right product keeps the order and is at most both, so no other results need be tried.
        int least = Math.max(chain.combine(PRODUCT, one - 1, other), chain.combine(PRODUCT, one, other - 1));
        int greatest = Math.min(one, other);
        int found = 0;
        for (int product = least; product <= greatest; product++) {
            chain.setProduct(one, other, product);
            found += countRightProducts(chain, cell + 1, commutes);
        }
        return found;
    }

    private int fewestElementsToFail(char kind, int formula) {
        for (int elements = 2; elements <= MOST_ELEMENTS; elements++) {
            trial.becomeChain(kind, elements);
            if (meaning.firstFailure(trial, formula) >= 0) {
                return elements;
            }
        }
        return NONE;
    }

    /** Whether the formula is valid in each algebra in which one of its proofs says that it has to be. */
    private boolean isValidWhereProved(int formula, boolean isForAll, boolean isForCommuting, boolean isForIdempotent) {
        for (int i = 0; i < algebraCount; i++) {
            Algebra algebra = algebras[i];
            if (algebra.isRight && (isForAll || (isForCommuting && algebra.obeys('c'))
                    || (isForIdempotent && algebra.obeys('i'))) && meaning.firstFailure(algebra, formula) >= 0) {
                return false;
            }
        }
        return true;
    }

    /** The bits of a float from 0 to 1, by doubling, which is exact. */
    private static int bitsOf(float share) {
        if (share <= 0.0f) {
            return 0;
        }
        int exponent = 127;
        float mantissa = share;
        while (mantissa < 1.0f && exponent > 1) {
            mantissa = mantissa * 2.0f;
            exponent--;
        }
        return (exponent << 23) | (int) ((mantissa - 1.0f) * 8388608.0f);
    }

    /** An order and a product on up to 8 elements, with all that follows from them. */
    private static final class Algebra {
        private static final int ROW = 8;
        private static final int TABLE = 64;

        /** The elements that each element is at most, and those that are at most it, as sets. */
        private final int[] upward = new int[MOST_ELEMENTS];
        private final int[] downward = new int[MOST_ELEMENTS];
        /** The tables of meet, join, product and both arrows, one after the other. */
        private final int[] made = new int[5 * TABLE];
        private int size;
        private boolean isByHand;
        private boolean isLattice;
        private boolean isRight;

        void becomeChain(char kind, int elements) {
            begin(elements);
            isByHand = kind == 'h';
            int top = elements - 1;
            for (int a = 0; a < elements; a++) {
                for (int b = 0; b < elements; b++) {
                    if (a <= b) {
                        relate(a, b);
                    }
                    setProduct(a, b, chainProduct(kind, top, a, b));
                }
            }
            settleOrder();
            settleProduct();
        }

        private static int chainProduct(char kind, int top, int a, int b) {
            if (kind == 'l') {
                return Math.max(0, a + b - top);
            }
            if (kind == 'g' || a == top || b == top) {
                return Math.min(a, b);
            }
            return 0;
        }

        void becomePairs(Algebra left, Algebra right) {
            int width = right.size;
            begin(left.size * width);
            if (width <= 0) {
                return;
            }
            for (int a = 0; a < size; a++) {
                for (int b = 0; b < size; b++) {
                    if (left.isAtMost(a / width, b / width) && right.isAtMost(a % width, b % width)) {
                        relate(a, b);
                    }
                    setProduct(a, b, left.combine(PRODUCT, a / width, b / width) * width
                            + right.combine(PRODUCT, a % width, b % width));
                }
            }
            settleOrder();
            settleProduct();
        }

        void becomeSum(Algebra lower, Algebra upper) {
            // The number of the element left out is also that of the least one of the upper part.
            int split = lower.size - 1;
            begin(split + upper.size);
            for (int a = 0; a < size; a++) {
                for (int b = 0; b < size; b++) {
                    if (a < split && b < split) {
                        relateIf(lower.isAtMost(a, b), a, b);
                        setProduct(a, b, lower.combine(PRODUCT, a, b));
                    } else if (a >= split && b >= split) {
                        relateIf(upper.isAtMost(a - split, b - split), a, b);
                        setProduct(a, b, split + upper.combine(PRODUCT, a - split, b - split));
                    } else {
                        relateIf(a < split, a, b);
                        setProduct(a, b, Math.min(a, b));
                    }
                }
            }
            settleOrder();
            settleProduct();
        }

        void becomeSets(int[] sets, int count) {
            begin(count);
            for (int a = 0; a < count; a++) {
                for (int b = 0; b < count; b++) {
                    int common = sets[a] & sets[b];
                    relateIf(common == sets[a], a, b);
                    for (int c = 0; c < count; c++) {
                        if (sets[c] == common) {
                            setProduct(a, b, c);
                        }
                    }
                }
            }
            settleOrder();
            settleProduct();
        }

        private void begin(int elements) {
            size = elements;
            isByHand = false;
            for (int a = 0; a < MOST_ELEMENTS; a++) {
                upward[a] = 0;
                downward[a] = 0;
            }
        }

        private void relate(int a, int b) {
            upward[a] |= 1 << b;
            downward[b] |= 1 << a;
        }

        private void relateIf(boolean isSo, int a, int b) {
            if (isSo) {
                relate(a, b);
            }
        }

        int all() {
            return (1 << size) - 1;
        }

        int top() {
            return size - 1;
        }

        boolean isAtMost(int a, int b) {
            return (upward[a] >> b & 1) != 0;
        }

        int combine(int kind, int a, int b) {
            return made[(kind - MEET) * TABLE + a * ROW + b];
        }

        private void setMade(int kind, int a, int b, int c) {
            made[(kind - MEET) * TABLE + a * ROW + b] = c;
        }

        void setProduct(int a, int b, int c) {
            setMade(PRODUCT, a, b, c);
        }

        /** The element of a set that is above, or below, all of it; NONE if there is none. */
        private int extremeOf(int set, int[] reach) {
            for (int a = 0; a < size; a++) {
                if ((set >> a & 1) != 0 && (set & ~reach[a]) == 0) {
                    return a;
                }
            }
            return NONE;
        }

        private void settleOrder() {
            isLattice = upward[0] == all() && downward[top()] == all();
            for (int a = 0; a < size; a++) {
                for (int b = 0; b < size; b++) {
                    int meet = extremeOf(downward[a] & downward[b], downward);
                    int join = extremeOf(upward[a] & upward[b], upward);
                    if (meet < 0 || join < 0) {
                        isLattice = false;
                    } else {
                        setMade(MEET, a, b, meet);
                        setMade(JOIN, a, b, join);
                    }
                }
            }
        }

        void settleProduct() {
            isRight = isLattice && hasUnit() && keepsOrder() && associates() && findArrows();
        }

        private boolean hasUnit() {
            for (int a = 0; a < size; a++) {
                if (combine(PRODUCT, a, top()) != a || combine(PRODUCT, top(), a) != a) {
                    return false;
                }
            }
            return true;
        }

        private boolean keepsOrder() {
            for (int a = 0; a < size; a++) {
                for (int b = 0; b < size; b++) {
                    for (int c = 0; c < size && isAtMost(a, b); c++) {
                        if (!isAtMost(combine(PRODUCT, a, c), combine(PRODUCT, b, c))
                                || !isAtMost(combine(PRODUCT, c, a), combine(PRODUCT, c, b))) {
                            return false;
                        }
                    }
                }
            }
            return true;
        }

        private boolean associates() {
            for (int a = 0; a < size; a++) {
                for (int b = 0; b < size; b++) {
                    for (int c = 0; c < size; c++) {
                        if (combine(PRODUCT, combine(PRODUCT, a, b), c)
                                != combine(PRODUCT, a, combine(PRODUCT, b, c))) {
                            return false;
                        }
                    }
                }
            }
            return true;
        }

        private boolean findArrows() {
            for (int a = 0; a < size; a++) {
                for (int c = 0; c < size; c++) {
                    int behind = 0;
                    int ahead = 0;
                    for (int b = 0; b < size; b++) {
                        behind |= isAtMost(combine(PRODUCT, a, b), c) ? 1 << b : 0;
                        ahead |= isAtMost(combine(PRODUCT, b, a), c) ? 1 << b : 0;
                    }
                    int under = extremeOf(behind, downward);
                    int over = extremeOf(ahead, downward);
                    if (under < 0 || over < 0) {
                        return false;
                    }
                    setMade(UNDER, a, c, under);
                    setMade(OVER, c, a, over);
                }
            }
            return true;
        }

        boolean doArrowsAnswer() {
            for (int a = 0; a < size; a++) {
                for (int b = 0; b < size; b++) {
                    for (int c = 0; c < size; c++) {
                        boolean isSo = isAtMost(combine(PRODUCT, a, b), c);
                        if (isSo != isAtMost(b, combine(UNDER, a, c)) || isSo != isAtMost(a, combine(OVER, c, b))) {
                            return false;
                        }
                    }
                }
            }
            return true;
        }

        boolean obeys(char law) {
            for (int a = 0; a < size; a++) {
                for (int b = 0; b < size; b++) {
                    if (!obeysAt(law, a, b)) {
                        return false;
                    }
                }
            }
            return true;
        }

        private boolean obeysAt(char law, int a, int b) {
            int product = combine(PRODUCT, a, b);
            int arrow = combine(UNDER, a, b);
            switch (placeIn(LAWS, law)) {
                case 0:
                    return product == combine(PRODUCT, b, a);
                case 1:
                    return combine(PRODUCT, a, a) == a;
                case 2:
                    return combine(JOIN, arrow, combine(UNDER, b, a)) == top();
                case 3:
                    return combine(PRODUCT, a, arrow) == combine(MEET, a, b);
                case 4:
                    return combine(UNDER, combine(UNDER, a, 0), 0) == a;
                case 5:
                    return combine(JOIN, a, combine(UNDER, a, 0)) == top();
                default:
                    return isAtMost(a, b) || isAtMost(b, a);
            }
        }

        int countFilters(boolean areNormal) {
            int found = 0;
            for (int set = 0; set <= all(); set++) {
                if (isFilter(set) && (!areNormal || isNormal(set))) {
                    found++;
                }
            }
            return found;
        }

        /** What all normal filters have in common, but the least one, is the least of these or just the top. */
        boolean hasLeastNormalFilter() {
            int least = 1 << top();
            int common = all();
            for (int set = 0; set <= all(); set++) {
                if (set != least && isFilter(set) && isNormal(set)) {
                    common &= set;
                }
            }
            return common != least;
        }

        private boolean isFilter(int set) {
            if ((set >> top() & 1) == 0) {
                return false;
            }
            for (int a = 0; a < size; a++) {
                for (int b = 0; b < size && (set >> a & 1) != 0; b++) {
                    boolean isIn = (set >> b & 1) != 0;
                    if ((isAtMost(a, b) && !isIn) || (isIn && (set >> combine(PRODUCT, a, b) & 1) == 0)) {
                        return false;
                    }
                }
            }
            return true;
        }

        private boolean isNormal(int set) {
            for (int a = 0; a < size; a++) {
                for (int b = 0; b < size && (set >> a & 1) != 0; b++) {
                    int under = combine(UNDER, b, combine(PRODUCT, a, b));
                    int over = combine(OVER, combine(PRODUCT, b, a), b);
                    if ((set >> under & 1) == 0 || (set >> over & 1) == 0) {
                        return false;
                    }
                }
            }
            return true;
        }

        int closure(int elements) {
            int set = elements | 1 | 1 << top();
            for (int round = 0; round < MOST_ELEMENTS; round++) {
                int more = set;
                for (int a = 0; a < size; a++) {
                    for (int b = 0; b < size; b++) {
                        if ((set >> a & 1) != 0 && (set >> b & 1) != 0) {
                            more |= allMade(a, b);
                        }
                    }
                }
                set = more;
            }
            return set;
        }

        private int allMade(int a, int b) {
            int set = 0;
            for (int kind = MEET; kind <= OVER; kind++) {
                set |= 1 << combine(kind, a, b);
            }
            return set;
        }
    }

    /** Looks for a map from one algebra into another one. */
    private static final class Maps {
        private final int[] image = new int[MOST_ELEMENTS];

        /** The kinds are the operations that the map has to keep, beside the order, 0 and the top. */
        boolean canMap(Algebra from, Algebra into, int firstKind, int lastKind) {
            return from.size <= into.size && extend(from, into, firstKind, lastKind, image, 0);
        }

        private static boolean extend(Algebra from, Algebra into, int firstKind, int lastKind, int[] image, int at) {
            if (at >= from.size || at >= MOST_ELEMENTS) {
                return true;
            }
            for (int target = 0; target < into.size; target++) {
                image[at] = target;
                if (isAllowed(from, into, at, target) && keepsOrder(from, into, image, at)
                        && keepsKinds(from, into, firstKind, lastKind, image, at)
                        && extend(from, into, firstKind, lastKind, image, at + 1)) {
                    return true;
                }
            }
            return false;
        }

        private static boolean isAllowed(Algebra from, Algebra into, int at, int target) {
            return (at == 0) == (target == 0) && (at == from.top()) == (target == into.top());
        }

        /** An order that is kept both ways makes the map one to one, too. */
        private static boolean keepsOrder(Algebra from, Algebra into, int[] image, int at) {
            for (int a = 0; a < at; a++) {
                if (from.isAtMost(a, at) != into.isAtMost(image[a], image[at])
                        || from.isAtMost(at, a) != into.isAtMost(image[at], image[a])) {
                    return false;
                }
            }
            return true;
        }

        private static boolean keepsKinds(Algebra from, Algebra into, int firstKind, int lastKind, int[] image, int at) {
            for (int kind = firstKind; kind <= lastKind; kind++) {
                for (int a = 0; a <= at; a++) {
                    for (int b = 0; b <= at; b++) {
                        int made = from.combine(kind, a, b);
                        if (made <= at && image[made] != into.combine(kind, image[a], image[b])) {
                            return false;
                        }
                    }
                }
            }
            return true;
        }
    }

    /** Parts elements until those still together cannot be told apart. */
    private static final class Congruence {
        private final int[] related = new int[MOST_ELEMENTS];

        int countClasses(Algebra algebra, int designated) {
            for (int a = 0; a < algebra.size; a++) {
                related[a] = (designated >> a & 1) != 0 ? designated : algebra.all() & ~designated;
            }
            boolean isChanged = true;
            // Each round but the last parts at least one of 64 pairs.
            for (int round = 0; round < 65 && isChanged; round++) {
                isChanged = partOnce(algebra);
            }
            int found = 0;
            for (int a = 0; a < algebra.size; a++) {
                if ((related[a] & (1 << a) - 1) == 0) {
                    found++;
                }
            }
            return found;
        }

        private boolean partOnce(Algebra algebra) {
            boolean isChanged = false;
            for (int a = 0; a < algebra.size; a++) {
                for (int b = 0; b < a; b++) {
                    if (areRelated(a, b) && areTold(algebra, a, b)) {
                        related[a] &= ~(1 << b);
                        related[b] &= ~(1 << a);
                        isChanged = true;
                    }
                }
            }
            return isChanged;
        }

        private boolean areRelated(int a, int b) {
            return (related[a] >> b & 1) != 0;
        }

        private boolean areTold(Algebra algebra, int a, int b) {
            for (int kind = MEET; kind <= OVER; kind++) {
                for (int c = 0; c < algebra.size; c++) {
                    if (!areRelated(algebra.combine(kind, a, c), algebra.combine(kind, b, c))
                            || !areRelated(algebra.combine(kind, c, a), algebra.combine(kind, c, b))) {
                        return true;
                    }
                }
            }
            return false;
        }
    }

    /** The formulas by their numbers; each part of one has a lower number than itself. */
    private static final class Formulas {
        private final int[] kind = new int[MOST_FORMULAS];
        private final int[] first = new int[MOST_FORMULAS];
        private final int[] second = new int[MOST_FORMULAS];
        /** The variables in each, as a set. */
        private final int[] variables = new int[MOST_FORMULAS];
        /** All signs of each; below 2 to the power of 40, as each has at most twice those of one ahead, and one. */
        private final long[] signs = new long[MOST_FORMULAS];
        /** The parts of each, itself too, as a set of numbers. */
        private final long[] parts = new long[MOST_FORMULAS];
        private final int[] image = new int[MOST_FORMULAS];
        private int size;

        /** The number of the formula, which is added if it is not there; NONE if there is no room. */
        int insert(int code, int one, int other) {
            int left = code == ZERO || code == ONE ? 0 : one;
            int right = code >= MEET ? other : 0;
            for (int i = 0; i < size; i++) {
                if (kind[i] == code && first[i] == left && second[i] == right) {
                    return i;
                }
            }
            if (size >= MOST_FORMULAS) {
                return NONE;
            }
            kind[size] = code;
            first[size] = left;
            second[size] = right;
            boolean isMade = code >= MEET;
            variables[size] = isMade ? variables[left] | variables[right] : code == VARIABLE ? 1 << left : 0;
            signs[size] = isMade ? 1 + signs[left] + signs[right] : 1;
            parts[size] = 1L << size | (isMade ? parts[left] | parts[right] : 0L);
            size++;
            return size - 1;
        }

        int denyTwice(int formula) {
            int zero = insert(ZERO, 0, 0);
            int denial = zero < 0 ? NONE : insert(UNDER, formula, zero);
            return denial < 0 ? NONE : insert(UNDER, denial, zero);
        }

        /** What has to be added first is a double denial, so '0' is the first of all by itself. */
        int insertTranslation(int formula) {
            for (int i = 0; i <= formula; i++) {
                image[i] = NONE;
            }
            return translated(this, formula, 0);
        }

        /** A part that was met before adds nothing, so its image is kept. */
        private static int translated(Formulas store, int formula, int depth) {
            if (depth > MOST_FORMULAS) {
                return NONE;
            }
            if (store.image[formula] >= 0) {
                return store.image[formula];
            }
            int code = store.kind[formula];
            int made = formula;
            if (code >= MEET) {
                int left = translated(store, store.first[formula], depth + 1);
                int right = left < 0 ? NONE : translated(store, store.second[formula], depth + 1);
                made = right < 0 ? NONE : store.insert(code, left, right);
            }
            if (made >= 0 && (code == VARIABLE || code == JOIN)) {
                made = store.denyTwice(made);
            }
            store.image[formula] = made;
            return made;
        }

        /** Writes the numbers of a set of parts, rising; tells how many they are. */
        int list(long set, int[] into) {
            int found = 0;
            for (int i = 0; i < size && found < into.length; i++) {
                if ((set >> i & 1) != 0) {
                    into[found] = i;
                    found++;
                }
            }
            return found;
        }
    }

    /** The values of formulas in an algebra. */
    private static final class Meaning {
        private static final int ALL_VARIABLES = 15;

        private final Formulas store;
        private final int[] given = new int[MOST_VARIABLES];
        private final int[] worth = new int[MOST_FORMULAS];
        private final int[] steps = new int[MOST_FORMULAS];
        private int stepCount;

        Meaning(Formulas store) {
            this.store = store;
        }

        /** Sets what has to be evaluated for each of the values. */
        void prepare(long parts) {
            stepCount = store.list(parts, steps);
        }

        void give(Algebra algebra, int values) {
            spread(algebra, ALL_VARIABLES, values);
        }

        /** Gives values to a set of variables, numbered as if they were the variables 0, 1 and so on. */
        private void spread(Algebra algebra, int variables, int values) {
            int rest = values;
            for (int i = 0; i < MOST_VARIABLES && algebra.size > 0; i++) {
                if ((variables >> i & 1) != 0) {
                    given[i] = rest % algebra.size;
                    rest /= algebra.size;
                }
            }
        }

        int evaluate(Algebra algebra, int formula) {
            for (int k = 0; k < stepCount; k++) {
                int i = steps[k];
                int code = store.kind[i];
                if (code >= MEET) {
                    worth[i] = algebra.combine(code, worth[store.first[i]], worth[store.second[i]]);
                } else if (code == VARIABLE) {
                    worth[i] = given[store.first[i]];
                } else {
                    worth[i] = code == ONE ? algebra.top() : 0;
                }
            }
            return worth[formula];
        }

        /** How many values there are for the variables up to the greatest one of a set. */
        int choicesOf(Algebra algebra, int variables) {
            int choices = 1;
            for (int rest = variables; rest > 0; rest >>= 1) {
                choices *= algebra.size;
            }
            return choices;
        }

        /** How many values there are for just the variables of a set. */
        int spreadsOf(Algebra algebra, int variables) {
            int choices = 1;
            for (int i = Integer.bitCount(variables); i > 0; i--) {
                choices *= algebra.size;
            }
            return choices;
        }

        int firstFailure(Algebra algebra, int formula) {
            prepare(store.parts[formula]);
            int choices = choicesOf(algebra, store.variables[formula]);
            for (int values = 0; values < choices; values++) {
                give(algebra, values);
                if (evaluate(algebra, formula) != algebra.top()) {
                    return values;
                }
            }
            return NONE;
        }

        int countTop(Algebra algebra, int formula) {
            prepare(store.parts[formula]);
            int found = 0;
            int choices = choicesOf(algebra, store.variables[formula]);
            for (int values = 0; values < choices; values++) {
                give(algebra, values);
                if (evaluate(algebra, formula) == algebra.top()) {
                    found++;
                }
            }
            return found;
        }

        boolean areEqual(Algebra algebra, int formula, int other) {
            prepare(store.parts[formula] | store.parts[other]);
            int choices = choicesOf(algebra, store.variables[formula] | store.variables[other]);
            for (int values = 0; values < choices; values++) {
                give(algebra, values);
                if (evaluate(algebra, formula) != worth[other]) {
                    return false;
                }
            }
            return true;
        }

        boolean isConsequence(Algebra algebra, int designated, int formula, int other, int conclusion) {
            prepare(store.parts[formula] | store.parts[other] | store.parts[conclusion]);
            int variables = store.variables[formula] | store.variables[other] | store.variables[conclusion];
            int choices = choicesOf(algebra, variables);
            for (int values = 0; values < choices; values++) {
                give(algebra, values);
                int result = evaluate(algebra, conclusion);
                boolean areAll = (designated >> worth[formula] & designated >> worth[other] & 1) != 0;
                if (areAll && (designated >> result & 1) == 0) {
                    return false;
                }
            }
            return true;
        }

        /** The join or the meet of a formula, all its variables being varied but those that are told. */
        int bound(Algebra algebra, int formula, int common, int values, int by) {
            prepare(store.parts[formula]);
            spread(algebra, common, values);
            int varied = store.variables[formula] & ~common;
            int choices = spreadsOf(algebra, varied);
            int result = by == JOIN ? 0 : algebra.top();
            for (int choice = 0; choice < choices; choice++) {
                spread(algebra, varied, choice);
                result = algebra.combine(by, result, evaluate(algebra, formula));
            }
            return result;
        }

        boolean areBoundsInOrder(Algebra algebra, int formula, int other) {
            int common = store.variables[formula] & store.variables[other];
            int choices = spreadsOf(algebra, common);
            for (int values = 0; values < choices; values++) {
                int lower = bound(algebra, formula, common, values, JOIN);
                if (!algebra.isAtMost(lower, bound(algebra, other, common, values, MEET))) {
                    return false;
                }
            }
            return true;
        }
    }

    /**
     * The search of 'l', 'e' and 'w'. All sequents that can be come to are kept first, as the bounds
     * ask for it, and measured then, the lighter ones first: each rule, read backward, takes away signs.
     */
    private static final class Search {
        private static final int MOST = 300;
        private static final int WIDEST = 12;
        private static final int HEADS = 512;

        private final Formulas store;
        private final int[] rows = new int[MOST * WIDEST];
        private final int[] lengths = new int[MOST];
        private final int[] goals = new int[MOST];
        private final long[] weights = new long[MOST];
        /** The size of the smallest proof that is known of each, 0 for none. */
        private final int[] proofs = new int[MOST];
        private final int[] heads = new int[HEADS];
        private final int[] nexts = new int[MOST];
        private final int[] order = new int[MOST];
        private final int[] draft = new int[WIDEST + 1];
        private int drafted;
        private int kept;
        private boolean gaveUp;
        private boolean isOrdered;
        private boolean canDrop;
        /** The sequent that is read backward. */
        private int at;
        private int base;
        private int width;
        private int goal;

        Search(Formulas store) {
            this.store = store;
        }

        void clearRow() {
            drafted = 0;
        }

        void push(int formula) {
            if (drafted < draft.length) {
                draft[drafted] = formula;
                drafted++;
            }
        }

        /** Of the row that was pushed and the formula: 0 if there is no proof, NONE if the search gives up. */
        int smallestProof(char logic, int formula) {
            isOrdered = logic == 'l';
            canDrop = logic == 'w';
            gaveUp = false;
            kept = 0;
            for (int i = 0; i < HEADS; i++) {
                heads[i] = NONE;
            }
            int asked = keep(formula);
            for (int i = 0; i < kept && i < MOST && !gaveUp; i++) {
                turnTo(i);
                readBackward();
            }
            if (gaveUp || asked < 0) {
                return NONE;
            }
            sortByWeight();
            for (int i = 0; i < kept; i++) {
                turnTo(order[i]);
                if (isClosed()) {
                    proofs[at] = 1;
                } else {
                    readBackward();
                }
            }
            return proofs[asked];
        }

        /** The number of the sequent of the drafted row and the goal, kept now if it was not. */
        private int keep(int toGoal) {
            if (gaveUp || drafted > WIDEST) {
                gaveUp = true;
                return NONE;
            }
            if (!isOrdered) {
                sortDraft();
            }
            int head = headOf(toGoal);
            int candidate = heads[head];
            for (int hops = 0; hops < MOST && candidate >= 0; hops++) {
                if (isDraft(candidate, toGoal)) {
                    return candidate;
                }
                candidate = nexts[candidate];
            }
            if (kept >= MOST) {
                gaveUp = true;
                return NONE;
            }
            append(toGoal, head);
            return kept - 1;
        }

        private void append(int toGoal, int head) {
            long weight = store.signs[toGoal];
            for (int i = 0; i < drafted; i++) {
                rows[kept * WIDEST + i] = draft[i];
                weight += store.signs[draft[i]];
            }
            lengths[kept] = drafted;
            goals[kept] = toGoal;
            weights[kept] = weight;
            proofs[kept] = 0;
            nexts[kept] = heads[head];
            heads[head] = kept;
            kept++;
        }

        private int headOf(int toGoal) {
            int mixed = toGoal + 1;
            for (int i = 0; i < drafted; i++) {
                mixed = mixed * 43 + draft[i] + 1;
            }
            return (mixed ^ mixed >>> 9 ^ mixed >>> 18) & HEADS - 1;
        }

        private boolean isDraft(int sequent, int toGoal) {
            if (goals[sequent] != toGoal || lengths[sequent] != drafted) {
                return false;
            }
            for (int i = 0; i < drafted; i++) {
                if (rows[sequent * WIDEST + i] != draft[i]) {
                    return false;
                }
            }
            return true;
        }

        private void sortDraft() {
            for (int i = 1; i < drafted; i++) {
                int moved = draft[i];
                int to = i;
                for (; to > 0 && draft[to - 1] > moved; to--) {
                    draft[to] = draft[to - 1];
                }
                draft[to] = moved;
            }
        }

        private void sortByWeight() {
            for (int i = 0; i < kept; i++) {
                int to = i;
                for (; to > 0 && weights[order[to - 1]] > weights[i]; to--) {
                    order[to] = order[to - 1];
                }
                order[to] = i;
            }
        }

        private void turnTo(int sequent) {
            at = sequent;
            base = sequent * WIDEST;
            width = lengths[sequent];
            goal = goals[sequent];
        }

        private boolean isClosed() {
            int goalKind = store.kind[goal];
            if (goalKind == ONE && (canDrop || width == 0)) {
                return true;
            }
            for (int i = 0; i < width; i++) {
                int formula = rows[base + i];
                if (store.kind[formula] == ZERO
                        || (formula == goal && goalKind == VARIABLE && (canDrop || width == 1))) {
                    return true;
                }
            }
            return false;
        }

        /** Goes through all rules that could end in the sequent, and offers what they need. */
        private void readBackward() {
            readGoal();
            for (int i = 0; i < width && !gaveUp; i++) {
                // Without an order, the same formula again would need the same again.
                if (isOrdered || i == 0 || rows[base + i] != rows[base + i - 1]) {
                    readRow(i);
                }
            }
        }

        private void readGoal() {
            int first = store.first[goal];
            int second = store.second[goal];
            switch (store.kind[goal]) {
                case MEET:
                    offerBoth(replaced(NONE, NONE, NONE, first), replaced(NONE, NONE, NONE, second));
                    break;
                case JOIN:
                    offer(replaced(NONE, NONE, NONE, first));
                    offer(replaced(NONE, NONE, NONE, second));
                    break;
                case PRODUCT:
                    partRow(NONE, first, second);
                    break;
                case UNDER:
                    offer(extended(first, NONE, second));
                    break;
                case OVER:
                    offer(extended(NONE, second, first));
                    break;
                default:
                    break;
            }
        }

        private void readRow(int place) {
            int formula = rows[base + place];
            int first = store.first[formula];
            int second = store.second[formula];
            switch (store.kind[formula]) {
                case ONE:
                    offer(replaced(place, NONE, NONE, goal));
                    break;
                case MEET:
                    offer(replaced(place, first, NONE, goal));
                    offer(replaced(place, second, NONE, goal));
                    break;
                case JOIN:
                    offerBoth(replaced(place, first, NONE, goal), replaced(place, second, NONE, goal));
                    break;
                case PRODUCT:
                    offer(replaced(place, first, second, goal));
                    break;
                case UNDER:
                    partRow(place, first, second);
                    break;
                case OVER:
                    partRow(place, second, first);
                    break;
                default:
                    break;
            }
        }

        /** The sequent with up to two formulas in the place of one, and a goal. */
        private int replaced(int place, int one, int other, int toGoal) {
            drafted = 0;
            for (int i = 0; i < width; i++) {
                if (i != place) {
                    push(rows[base + i]);
                } else {
                    pushIf(one);
                    pushIf(other);
                }
            }
            return keep(toGoal);
        }

        /** The sequent with a formula ahead of the row or behind it, and a goal. */
        private int extended(int ahead, int behind, int toGoal) {
            drafted = 0;
            pushIf(ahead);
            for (int i = 0; i < width; i++) {
                push(rows[base + i]);
            }
            pushIf(behind);
            return keep(toGoal);
        }

        private void pushIf(int formula) {
            if (formula >= 0) {
                push(formula);
            }
        }

        /**
         * Offers all ways in which some of the row lead to one formula, and the rest, with the other one
         * in the given place, to the goal; without a place, the rest lead to the other one. In an order,
         * these are the ways to take some right ahead of the place, or right behind it; of none, any.
         */
        private void partRow(int place, int one, int other) {
            boolean isAhead = place >= 0 && store.kind[rows[base + place]] == UNDER;
            int most = isAhead ? place : width - place - 1;
            int ways = isOrdered ? most + 1 : 1 << width;
            int repeats = repeatsBut(place);
            int barred = place < 0 ? 0 : 1 << place;
            for (int way = 0; way < ways && !gaveUp; way++) {
                if (isOrdered) {
                    offerParted((1 << way) - 1 << (isAhead ? place - way : place + 1), place, one, other);
                } else if ((way & barred) == 0 && (way & repeats & ~(way << 1)) == 0) {
                    // Of equal formulas, only the first ones are taken, so that no parting comes twice.
                    offerParted(way, place, one, other);
                }
            }
        }

        /** The formulas that are the same as the one ahead, unless that one is in the given place. */
        private int repeatsBut(int place) {
            int repeats = 0;
            for (int i = 1; i < width; i++) {
                if (i - 1 != place && rows[base + i] == rows[base + i - 1]) {
                    repeats |= 1 << i;
                }
            }
            return repeats;
        }

        private void offerParted(int taken, int place, int one, int other) {
            drafted = 0;
            for (int i = 0; i < width; i++) {
                if ((taken >> i & 1) != 0) {
                    push(rows[base + i]);
                }
            }
            int part = keep(one);
            drafted = 0;
            for (int i = 0; i < width; i++) {
                if ((taken >> i & 1) == 0) {
                    push(i == place ? other : rows[base + i]);
                }
            }
            offerBoth(part, keep(place < 0 ? other : goal));
        }

        private void offer(int sequent) {
            if (!gaveUp && sequent >= 0 && proofs[sequent] > 0) {
                lower(1L + proofs[sequent]);
            }
        }

        private void offerBoth(int one, int other) {
            if (!gaveUp && one >= 0 && other >= 0 && proofs[one] > 0 && proofs[other] > 0) {
                lower(1L + proofs[one] + proofs[other]);
            }
        }

        private void lower(long proof) {
            if (proofs[at] == 0 || proof < proofs[at]) {
                proofs[at] = (int) Math.min((long) Integer.MAX_VALUE, proof);
            }
        }
    }

    /** The logic 'i', decided from below: what each set of parts leads to, the greater sets first. */
    private static final class Saturation {
        private final Formulas store;
        private final int[] numbers = new int[MOST_PARTS];
        private final int[] places = new int[MOST_FORMULAS];
        private final int[] kinds = new int[MOST_PARTS];
        /** The places of both formulas of each part; of an arrow, the one that it asks for first. */
        private final int[] first = new int[MOST_PARTS];
        private final int[] second = new int[MOST_PARTS];
        private final int[] known = new int[1 << MOST_PARTS];
        private int width;

        Saturation(Formulas store) {
            this.store = store;
        }

        boolean isDerived(long parts, int formula, int goal) {
            readParts(parts);
            for (int set = (1 << width) - 1; set >= 0; set--) {
                fill(set);
            }
            int row = formula < 0 ? 0 : 1 << places[formula];
            return (known[row] >> places[goal] & 1) != 0;
        }

        private void readParts(long parts) {
            width = store.list(parts, numbers);
            for (int i = 0; i < width; i++) {
                int number = numbers[i];
                places[number] = i;
                int code = store.kind[number];
                kinds[i] = code == PRODUCT ? MEET : code == OVER ? UNDER : code;
                first[i] = 0;
                second[i] = 0;
                if (code >= MEET) {
                    first[i] = places[code == OVER ? store.second[number] : store.first[number]];
                    second[i] = places[code == OVER ? store.first[number] : store.second[number]];
                }
            }
        }

        private void fill(int set) {
            known[set] = set;
            for (int i = 0; i < width; i++) {
                if (kinds[i] == ONE) {
                    known[set] |= 1 << i;
                } else if (kinds[i] == ZERO && (set >> i & 1) != 0) {
                    known[set] = (1 << width) - 1;
                }
            }
            // Each round but the last adds at least one part.
            boolean isChanged = true;
            for (int round = 0; round <= MOST_PARTS && isChanged; round++) {
                int before = known[set];
                for (int i = 0; i < width; i++) {
                    readGoal(set, i);
                    if ((set >> i & 1) != 0) {
                        readRow(set, i);
                    }
                }
                isChanged = known[set] != before;
            }
        }

        private void readGoal(int set, int part) {
            boolean hasFirst = (known[set] >> first[part] & 1) != 0;
            boolean hasSecond = (known[set] >> second[part] & 1) != 0;
            boolean isNew = (kinds[part] == MEET && hasFirst && hasSecond)
                    || (kinds[part] == JOIN && (hasFirst || hasSecond))
                    || (kinds[part] == UNDER && (known[set | 1 << first[part]] >> second[part] & 1) != 0);
            if (isNew) {
                known[set] |= 1 << part;
            }
        }

        private void readRow(int set, int part) {
            int withFirst = set | 1 << first[part];
            int withSecond = set | 1 << second[part];
            if (kinds[part] == MEET) {
                known[set] |= known[withFirst | withSecond];
            } else if (kinds[part] == JOIN) {
                known[set] |= known[withFirst] & known[withSecond];
            } else if (kinds[part] == UNDER && (known[set] >> first[part] & 1) != 0) {
                known[set] |= known[withSecond];
            }
        }
    }

    /** Worlds with an order; sets of worlds are sums of 2 to the power of each. */
    private static final class Frame {
        private static final int SETS = 32;

        private final Formulas store;
        private final int[] upward = new int[MOST_WORLDS];
        private final int[] having = new int[MOST_VARIABLES];
        private final int[] tried = new int[MOST_VARIABLES];
        /** For each set, the worlds that have nothing above them outside of it. */
        private final int[] inside = new int[SETS];
        private final int[] sets = new int[SETS];
        private int setCount;
        private final int[] worth = new int[MOST_FORMULAS];
        private final int[] steps = new int[MOST_FORMULAS];
        private int worlds;

        Frame(Formulas store) {
            this.store = store;
        }

        void empty() {
            worlds = 0;
            for (int i = 0; i < MOST_VARIABLES; i++) {
                having[i] = 0;
            }
        }

        int allWorlds() {
            return (1 << worlds) - 1;
        }

        int insertWorld() {
            upward[worlds] = 1 << worlds;
            worlds++;
            return worlds - 1;
        }

        /** Tells how many pairs are in the order then. */
        int putAbove(int world, int other) {
            int pairs = 0;
            for (int i = 0; i < worlds; i++) {
                if ((upward[i] >> world & 1) != 0) {
                    upward[i] |= upward[other];
                }
                pairs += Integer.bitCount(upward[i]);
            }
            for (int i = 0; i < MOST_VARIABLES; i++) {
                having[i] = allAbove(having[i]);
            }
            return pairs;
        }

        /** Tells how many worlds have it then. */
        int giveVariable(int world, int variable) {
            having[variable] |= upward[world];
            return Integer.bitCount(having[variable]);
        }

        private int allAbove(int set) {
            int result = set;
            for (int i = 0; i < worlds; i++) {
                if ((set >> i & 1) != 0) {
                    result |= upward[i];
                }
            }
            return result;
        }

        /** Lists the sets within one that have with each world all above it, by rising numbers. */
        void listSets(int within) {
            setCount = 0;
            for (int set = 0; set <= within && set < SETS; set++) {
                if ((set & ~within) == 0 && allAbove(set) == set) {
                    sets[setCount] = set;
                    setCount++;
                }
            }
        }

        /** Sorts them by rising sizes, then numbers. */
        void sortSets() {
            for (int i = 1; i < setCount; i++) {
                int moved = sets[i];
                int to = i;
                for (; to > 0 && Integer.bitCount(sets[to - 1]) > Integer.bitCount(moved); to--) {
                    sets[to] = sets[to - 1];
                }
                sets[to] = moved;
            }
        }

        boolean isForced(int world, int formula) {
            findInside();
            int count = store.list(store.parts[formula], steps);
            return (evaluate(count, formula, having) >> world & 1) != 0;
        }

        private void findInside() {
            for (int set = 0; set < SETS; set++) {
                inside[set] = 0;
                for (int i = 0; i < worlds; i++) {
                    if ((upward[i] & ~set) == 0) {
                        inside[set] |= 1 << i;
                    }
                }
            }
        }

        /** The worlds that have the formula. */
        private int evaluate(int count, int formula, int[] variables) {
            for (int k = 0; k < count; k++) {
                int i = steps[k];
                int one = store.kind[i] >= MEET ? worth[store.first[i]] : 0;
                int other = store.kind[i] >= MEET ? worth[store.second[i]] : 0;
                switch (store.kind[i]) {
                    case VARIABLE:
                        worth[i] = variables[store.first[i]];
                        break;
                    case ZERO:
                        worth[i] = 0;
                        break;
                    case ONE:
                        worth[i] = allWorlds();
                        break;
                    case JOIN:
                        worth[i] = one | other;
                        break;
                    case UNDER:
                        worth[i] = inside[(~one | other) & allWorlds()];
                        break;
                    case OVER:
                        worth[i] = inside[(~other | one) & allWorlds()];
                        break;
                    default:
                        worth[i] = one & other;
                        break;
                }
            }
            return worth[formula];
        }

        /**
         * What a world has depends on the worlds above it alone, and those have what it has: so the
         * worlds with no other one below are looked at, each with all that can be told above it.
         */
        boolean isForcedAlways(int formula) {
            findInside();
            int count = store.list(store.parts[formula], steps);
            for (int world = 0; world < worlds; world++) {
                if (isLowest(world)) {
                    listSets(upward[world]);
                    if (!isForcedBySets(world, formula, count)) {
                        return false;
                    }
                }
            }
            return true;
        }

        private boolean isLowest(int world) {
            for (int i = 0; i < world; i++) {
                if ((upward[i] >> world & 1) != 0) {
                    return false;
                }
            }
            return true;
        }

        private boolean isForcedBySets(int world, int formula, int count) {
            int choices = 1;
            for (int i = Integer.bitCount(store.variables[formula]); i > 0; i--) {
                choices *= setCount;
            }
            for (int choice = 0; choice < choices; choice++) {
                int rest = choice;
                for (int i = 0; i < MOST_VARIABLES && setCount > 0; i++) {
                    if ((store.variables[formula] >> i & 1) != 0) {
                        tried[i] = sets[rest % setCount];
                        rest /= setCount;
                    }
                }
                if ((evaluate(count, formula, tried) >> world & 1) == 0) {
                    return false;
                }
            }
            return true;
        }
    }

    /** Four values as two bits: 2 for true, 1 for false; the letters stand in this order. */
    private static final class FourValues {
        private static final int TRUE = 2;
        private static final int FALSE = 1;

        private final Formulas store;
        private final int[] told = new int[MOST_VARIABLES];
        private final int[] tried = new int[MOST_VARIABLES];
        private final int[] worth = new int[MOST_FORMULAS];

        FourValues(Formulas store) {
            this.store = store;
        }

        int evaluateTold(int formula) {
            return evaluate(formula, told);
        }

        boolean isTrueForAll(int formula) {
            for (int choice = 0; choice < 256; choice++) {
                for (int i = 0; i < MOST_VARIABLES; i++) {
                    tried[i] = choice >> 2 * i & 3;
                }
                if ((evaluate(formula, tried) & TRUE) == 0) {
                    return false;
                }
            }
            return true;
        }

        private int evaluate(int formula, int[] variables) {
            for (int i = 0; i <= formula; i++) {
                int code = store.kind[i];
                if (code >= MEET) {
                    worth[i] = combine(code, worth[store.first[i]], worth[store.second[i]]);
                } else if (code == VARIABLE) {
                    worth[i] = variables[store.first[i]];
                } else {
                    worth[i] = code == ONE ? TRUE : FALSE;
                }
            }
            return worth[formula];
        }

        private static int combine(int code, int one, int other) {
            int both = one & other;
            int either = one | other;
            switch (code) {
                case JOIN:
                    return (either & TRUE) | (both & FALSE);
                case UNDER:
                    return (one & TRUE) != 0 ? other : TRUE;
                case OVER:
                    return (other & TRUE) != 0 ? one : TRUE;
                default:
                    return (both & TRUE) | (either & FALSE);
            }
        }
    }

    /** Words with up to two formulas each, and the sentence that is said. */
    private static final class Grammar {
        private static final int MOST_WORDS = 8;
        private static final int LONGEST = 6;

        private final int[] one = new int[MOST_WORDS];
        private final int[] other = new int[MOST_WORDS];
        private final int[] kinds = new int[MOST_WORDS];
        private final int[] sentence = new int[LONGEST];
        private int words;
        private int spoken;

        boolean isOfKind(int word, int formula) {
            return word < words && (one[word] == formula || (kinds[word] == 2 && other[word] == formula));
        }

        boolean hasRoomFor(int word) {
            return word < words ? kinds[word] < 2 : words < MOST_WORDS;
        }

        int giveKind(int word, int formula) {
            if (word < words) {
                other[word] = formula;
                kinds[word] = 2;
            } else {
                one[word] = formula;
                kinds[word] = 1;
                words++;
            }
            return kinds[word];
        }

        int append(int word) {
            sentence[spoken] = word;
            spoken++;
            return spoken;
        }

        int choices() {
            int result = 1;
            for (int i = 0; i < spoken; i++) {
                result *= kinds[sentence[i]];
            }
            return result;
        }

        /** Pushes the formulas of one of the choices. */
        void choose(int choice, Search search) {
            search.clearRow();
            int rest = choice;
            for (int i = 0; i < spoken; i++) {
                int word = sentence[i];
                boolean isOther = kinds[word] == 2 && (rest & 1) != 0;
                search.push(isOther ? other[word] : one[word]);
                rest >>= kinds[word] - 1;
            }
        }
    }

    /** Facts with grades, and rules between them. */
    private static final class Grades {
        private static final int FACTS = 10;
        private static final int FULL = 100;
        private static final int MOST_RULES = 20;

        private final int[] told = new int[FACTS];
        private final int[] best = new int[FACTS];
        private final int[] from = new int[MOST_RULES];
        private final int[] also = new int[MOST_RULES];
        private final int[] to = new int[MOST_RULES];
        private final int[] strength = new int[MOST_RULES];
        private int rules;

        int insertRule(int fact, int another, int result, int grade) {
            from[rules] = fact;
            also[rules] = another;
            to[rules] = result;
            strength[rules] = grade;
            rules++;
            return rules;
        }

        void settle(char by) {
            for (int i = 0; i < FACTS; i++) {
                best[i] = told[i];
            }
            boolean isChanged = true;
            // Each round but the last raises at least one of ten grades, none above 100.
            for (int round = 0; round <= FACTS * FULL && isChanged; round++) {
                isChanged = false;
                for (int i = 0; i < rules; i++) {
                    int brought = combine(by, strength[i], best[from[i]]);
                    if (also[i] >= 0) {
                        brought = combine(by, brought, best[also[i]]);
                    }
                    if (brought > best[to[i]]) {
                        best[to[i]] = brought;
                        isChanged = true;
                    }
                }
            }
        }

        private static int combine(char by, int one, int other) {
            if (by == 'l') {
                return Math.max(0, one + other - FULL);
            }
            return by == 'g' ? Math.min(one, other) : one * other / FULL;
        }

        int total() {
            int result = 0;
            for (int i = 0; i < FACTS; i++) {
                result += best[i];
            }
            return result;
        }
    }
}
