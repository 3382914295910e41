/** All that can be asked of a bench's state, as a text to compare. */
final class State {
    static final String ANSWERED = "nothing thrown";
    private static final int MOST_CHANGES = 6;

    interface Use {
        void on(TaxWorkbench bench);
    }

    private final StringBuilder told = new StringBuilder();
    private final Benches.Recipe recipe;
    private final Use use;

    private State(Benches.Recipe recipe, Use use) {
        this.recipe = recipe;
        this.use = use;
    }

    /** The whole state of what the recipe makes, once it was used so. */
    static String after(Benches.Recipe recipe, Use use) {
        State state = new State(recipe, use);
        state.text();
        return state.apartFromText();
    }

    static String butTextAfter(Benches.Recipe recipe, Use use) {
        return new State(recipe, use).apartFromText();
    }

    static String nowOf(TaxWorkbench bench) {
        State state = new State(null, null);
        state.answers(bench);
        return state.told.toString();
    }

    /** The name of the exception's class, if there is one. */
    static Object outcome(TaxWorkbench bench, Use use) {
        return Checks.outcome(() -> {
            use.on(bench);
            return ANSWERED;
        });
    }

    /** A bench is made for each look, as an object serves for 512 calls only. */
    private TaxWorkbench next() {
        TaxWorkbench bench = recipe.make();
        outcome(bench, use);
        return bench;
    }

    private void text() {
        TaxWorkbench bench = next();
        tell("fault", bench.faultPosition());
        tell("text's length", Checks.outcome(() -> bench.appendCharacter('4')));
        tell("text's items", Checks.outcome(bench::addRules));
        answers(bench);
    }

    private String apartFromText() {
        for (int undone = 0; undone <= MOST_CHANGES; undone++) {
            TaxWorkbench bench = next();
            for (int i = 0; i < undone; i++) {
                tell("undo", Checks.outcome(bench::undo));
            }
            answers(bench);
        }
        TaxWorkbench bench = next();
        tell("restore", outcome(bench, TaxWorkbench::restore));
        answers(bench);
        return told.toString();
    }

    private void tell(String what, Object answer) {
        told.append(what).append(' ').append(answer).append('\n');
    }

    private void answers(TaxWorkbench bench) {
        rules(bench);
        for (int i = 0; i < 6; i++) {
            person(bench, i);
        }
        tell("total", bench.totalTax());
        tell("years", bench.years());
    }

    private void rules(TaxWorkbench bench) {
        for (int i = 0; i < bench.bracketCount(); i++) {
            tell("bracket " + i, bench.bracket(i, 0) + " " + bench.bracket(i, 1));
        }
        for (int i = 0; i < 5; i++) {
            tell("allowance " + i, bench.allowance(i));
        }
        for (int i = 0; i < bench.chargeCount(); i++) {
            tell("charge " + i, bench.charge(i, 0) + " " + bench.charge(i, 1));
        }
        for (int i = 0; i < bench.creditCount(); i++) {
            for (int j = 0; j < 6; j++) {
                tell("credit " + i + " part " + j, bench.credit(i, j));
            }
        }
    }

    private void person(TaxWorkbench bench, int person) {
        for (int i = 0; i < 3; i++) {
            tell("person " + person + " part " + i, bench.personData(person, i));
        }
        tell("partner", Checks.outcome(() -> bench.partner(person)));
        for (int i = 0; i < bench.creditCount(); i++) {
            tell("carried " + i, bench.carried(person, i));
        }
        tell("tax", bench.tax(person));
        tell("household", bench.householdTax(person));
    }
}
