import java.util.ArrayList;
import java.util.LinkedHashSet;
import java.util.List;
import java.util.Set;

/** Tests that stand for one sentence of the document each, and which sentences have none. */
final class Sentences {
    interface NumberUse {
        void on(TaxWorkbench bench, int number);
    }

    /** What names no boundary case. */
    private static final List<String> PLAIN = List.of(
            "A workbench for income taxes: brackets,",
            "The class is not thread-safe.",
            "The constructor and the methods follow,");

    private final Document document;
    private final Checks checks;
    private final Set<String> tested = new LinkedHashSet<>();
    private String section = "";
    private String sentence = "";

    Sentences(Document document, Checks checks) {
        this.document = document;
        this.checks = checks;
    }

    /** The tests that follow stand for sentences of this section. */
    void in(String name) {
        section = name;
    }

    void promise(int number) {
        in("Promise " + number);
    }

    /** Takes the sentence, or a part of it that is long enough to find it by. */
    void test(String words, Checks.Deed deed) {
        sentence = words;
        List<String> found = holding(words);
        same("it stands in the document", found.isEmpty(), false);
        for (String one : found) {
            tested.add(section + ": " + one);
        }
        int before = checks.count();
        Object end = Checks.outcome(() -> {
            deed.happen();
            return "checked";
        });
        same("its test ends", end, "checked");
        same("its test checks something", checks.count() > before + 1, true);
    }

    private List<String> holding(String words) {
        List<String> found = new ArrayList<>();
        for (String one : document.sentences(section)) {
            if (one.contains(words)) {
                found.add(one);
            }
        }
        return found;
    }

    void same(String what, Object got, Object due) {
        checks.same(section + ", \"" + sentence + "\": " + what, got, due);
    }

    /** The call is refused, and leaves the whole state as it was. */
    void refuses(String what, Class<? extends RuntimeException> due, Benches.Recipe recipe, State.Use call) {
        same(what, State.outcome(recipe.make(), call), due.getName());
        same(what + " leaves the state", State.after(recipe, call), State.after(recipe, bench -> { }));
    }

    void refuses(String what, Class<? extends RuntimeException> due, State.Use call) {
        refuses(what, due, Benches::busy, call);
    }

    /** Every number beside the range is refused, also those that a narrower type would wrap into it. */
    void refusesOutside(int least, int most, Class<? extends RuntimeException> due, Benches.Recipe recipe,
            NumberUse call) {
        for (int number : outside(least, most)) {
            refuses("" + number, due, recipe, bench -> call.on(bench, number));
        }
    }

    void refusesOutside(int least, int most, Class<? extends RuntimeException> due, NumberUse call) {
        refusesOutside(least, most, due, Benches::busy, call);
    }

    private static List<Integer> outside(int least, int most) {
        List<Integer> numbers = new ArrayList<>(List.of(least - 1, most + 1, -most - 1, least + (1 << 16),
                least - (1 << 16), least + (1 << 24), Integer.MAX_VALUE, Integer.MIN_VALUE));
        if (most < least + (1 << 8)) {
            numbers.add(least + (1 << 8));
            numbers.add(least - (1 << 8));
        }
        return numbers;
    }

    /** The text is refused, is empty then, and has its fault there; all else is as it was. */
    void refusesText(String text, Class<? extends RuntimeException> due, int fault, Benches.Recipe recipe) {
        State.Use reading = bench -> Checks.rules(bench, text);
        TaxWorkbench bench = recipe.make();
        same(text, State.outcome(bench, reading), due.getName());
        same(text + " has its fault", bench.faultPosition(), fault);
        same(text + " is emptied", bench.appendCharacter('m'), 1);
        same(text + " leaves the state", State.butTextAfter(recipe, reading),
                State.butTextAfter(recipe, used -> { }));
    }

    void refusesText(String text, Class<? extends RuntimeException> due, int fault) {
        refusesText(text, due, fault, Benches::used);
    }

    void faulty(String text, int fault) {
        refusesText(text, IllegalArgumentException.class, fault);
    }

    void notAllowed(String text) {
        refusesText(text, IllegalStateException.class, -1);
    }

    void taken(String text, int items) {
        same(text, Checks.outcome(() -> Checks.rules(new TaxWorkbench(), text)), items);
    }

    /** Fails for each sentence that may name a boundary case and has no test. */
    void end() {
        for (String name : document.sections()) {
            for (String one : document.sentences(name)) {
                if (document.maybeBoundary(name, one) && PLAIN.stream().noneMatch(one::startsWith)) {
                    checks.same(name + ", \"" + one + "\" has a test", tested.contains(name + ": " + one), true);
                }
            }
        }
        System.out.println("EdgesTest: tests for " + tested.size() + " sentences");
        checks.end();
    }
}
