/** All that can be asked of a bench's state, as a text to compare: a line for each answer. */
final class State {
    static final String ANSWERED = "nothing thrown";
    static final int MOST_CHANGES = 6;

    interface Use {
        void on(TaxWorkbench bench);
    }

    private final StringBuilder told = new StringBuilder();

    private State() {
    }

    /** The whole state of what the recipe makes, once it was used so. */
    static String after(Benches.Recipe recipe, Use use) {
        State state = new State();
        TaxWorkbench bench = used(recipe, use);
        state.text(bench);
        state.answers(bench);
        return state.told + butTextAfter(recipe, use);
    }

    /** The fault position, and what becomes of the text with one character more. */
    static String textAfter(Benches.Recipe recipe, Use use) {
        State state = new State();
        state.text(used(recipe, use));
        return state.told.toString();
    }

    static String butTextAfter(Benches.Recipe recipe, Use use) {
        State state = new State();
        for (int undone = 0; undone <= MOST_CHANGES; undone++) {
            TaxWorkbench bench = used(recipe, use);
            for (int i = 0; i < undone; i++) {
                state.tell("undo", Checks.outcome(bench::undo));
            }
            state.answers(bench);
        }
        return state.told + restoredAfter(recipe, use);
    }

    static String restoredAfter(Benches.Recipe recipe, Use use) {
        State state = new State();
        TaxWorkbench bench = used(recipe, use);
        state.tell("restore", outcome(bench, TaxWorkbench::restore));
        state.answers(bench);
        return state.told.toString();
    }

    static String nowAfter(Benches.Recipe recipe, Use use) {
        return nowOf(used(recipe, use));
    }

    static String nowOf(TaxWorkbench bench) {
        State state = new State();
        state.answers(bench);
        return state.told.toString();
    }

    /** The name of the exception's class, if there is one. */
    static Object outcome(TaxWorkbench bench, Use use) {
        return Checks.outcome(() -> {
            use.on(bench);
            return ANSWERED;
        });
    }

    /** A bench is made for each look, as an object serves for 512 calls only. */
    private static TaxWorkbench used(Benches.Recipe recipe, Use use) {
        TaxWorkbench bench = recipe.make();
        outcome(bench, use);
        return bench;
    }

    private void tell(String what, Object answer) {
        told.append(what).append(' ').append(answer).append('\n');
    }

    private void text(TaxWorkbench bench) {
        tell("fault", bench.faultPosition());
        tell("text's length", Checks.outcome(() -> bench.appendCharacter('4')));
        tell("text's items", Checks.outcome(bench::addRules));
        tell("text's numbers", bench.allowance(3) + " " + bench.allowance(4));
    }

    private void answers(TaxWorkbench bench) {
        rules(bench);
        for (int i = 0; i < 6; i++) {
            person(bench, i);
        }
        tell("total", bench.totalTax());
        tell("years", bench.years());
    }

    private void rules(TaxWorkbench bench) {
        for (int i = 0; i < bench.bracketCount(); i++) {
            tell("bracket " + i, bench.bracket(i, 0) + " " + bench.bracket(i, 1));
        }
        for (int i = 0; i < 5; i++) {
            tell("allowance " + i, bench.allowance(i));
        }
        for (int i = 0; i < bench.chargeCount(); i++) {
            tell("charge " + i, bench.charge(i, 0) + " " + bench.charge(i, 1));
        }
        for (int i = 0; i < bench.creditCount(); i++) {
            for (int j = 0; j < 6; j++) {
                tell("credit " + i + " part " + j, bench.credit(i, j));
            }
        }
    }

    private void person(TaxWorkbench bench, int person) {
        String who = "person " + person + " ";
        for (int i = 0; i < 3; i++) {
            tell(who + "part " + i, bench.personData(person, i));
        }
        tell(who + "partner", Checks.outcome(() -> bench.partner(person)));
        for (int i = 0; i < bench.creditCount(); i++) {
            tell(who + "carried " + i, bench.carried(person, i));
        }
        tell(who + "tax", bench.tax(person));
        tell(who + "household", bench.householdTax(person));
    }
}
