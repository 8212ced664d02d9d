import java.util.function.Consumer;
import java.util.function.Function;

/** What an object answers to calls on all that it holds: two that hold the same answer the same. */
final class Portrait {
    /** The call throws this, and leaves the object as one that is spared the call. */
    static void isLeft(String what, Class<? extends RuntimeException> due, Consumer<Residuary> history,
            Function<Residuary, Object> call) {
        Residuary x = new Residuary();
        Residuary spared = new Residuary();
        history.accept(x);
        history.accept(spared);
        Check.fails(what, due, () -> call.apply(x));
        Check.same(what + ", and leaves all as it was", of(x), of(spared));
    }

    /** Changes the object, which is of no use after it. */
    static String of(Residuary x) {
        StringBuilder told = new StringBuilder();
        algebras(x, told);
        formulas(x, told);
        frame(x, told);
        grammar(x, told);
        grades(x, told);
        return told.toString();
    }

    private static void algebras(Residuary x, StringBuilder told) {
        for (int i = 0; i < 12; i++) {
            int algebra = i;
            tell(told, () -> x.elements(algebra));
            tell(told, () -> x.isRight(algebra));
            for (int pair = 0; pair < 9 && i < 4; pair++) {
                int one = pair / 3;
                int other = pair % 3;
                tell(told, () -> x.make(algebra, '*', one, other));
            }
        }
        tell(told, () -> x.tell(0, 1, 1, 0));
        tell(told, () -> x.chain('g', 2));
    }

    private static void formulas(Residuary x, StringBuilder told) {
        tell(told, () -> x.formulas());
        for (int i = 0; i < 40; i++) {
            int formula = i;
            tell(told, () -> x.length(formula));
            tell(told, () -> x.fourOf(formula));
        }
        tell(told, () -> x.formula('0', 0, 0));
        tell(told, () -> x.formula('v', 0, 0));
        for (int i = 0; i < 4; i++) {
            int variable = i;
            tell(told, () -> x.four(variable, 'b'));
        }
    }

    private static void frame(Residuary x, StringBuilder told) {
        for (int i = 0; i < 5; i++) {
            int world = i;
            for (int j = 0; j < 4; j++) {
                int number = j;
                tell(told, () -> x.holds(world, number));
                tell(told, () -> x.has(world, number));
            }
            tell(told, () -> x.above(0, world));
        }
        tell(told, () -> x.world());
        tell(told, () -> x.clearFrame());
    }

    private static void grammar(Residuary x, StringBuilder told) {
        tell(told, () -> x.parse(0));
        tell(told, () -> x.clearSentence());
        for (int i = 0; i < 8; i++) {
            int word = i;
            tell(told, () -> x.say(word));
            tell(told, () -> x.parse(0));
            tell(told, () -> x.clearSentence());
            tell(told, () -> x.word(word, 0));
        }
    }

    private static void grades(Residuary x, StringBuilder told) {
        for (int i = 0; i < 10; i++) {
            int fact = i;
            tell(told, () -> x.grade(fact, 'p'));
        }
        for (int i = 0; i < 10; i++) {
            int fact = i;
            tell(told, () -> x.fact(fact, 1));
        }
        tell(told, () -> x.meanGrade('l'));
        tell(told, () -> x.rule(0, -1, 1, 1));
    }

    private static void tell(StringBuilder told, Check.Call call) {
        try {
            told.append(call.run());
        } catch (RuntimeException e) {
            told.append(e.getClass().getSimpleName());
        }
        told.append(' ');
    }

    private Portrait() {
    }
}
