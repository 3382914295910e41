import java.util.Objects;

/** Counts checks, prints those that fail, and ends the test's run with exit code 1 if one did. */
final class Checks {
    interface Call {
        Object answer();
    }

    interface Deed {
        void happen();
    }

    private final String name;
    private int passed;
    private int failed;

    Checks(String name) {
        this.name = name;
    }

    void same(String what, Object got, Object due) {
        if (Objects.equals(widened(got), widened(due))) {
            passed++;
        } else {
            failed++;
            System.out.println(name + ": " + what + " answered " + got + ", due is " + due);
        }
    }

    /** The exception has to be of the class due itself. */
    void refused(String what, Class<? extends RuntimeException> due, Call call) {
        same(what, outcome(call), due.getName());
    }

    void refusedDeed(String what, Class<? extends RuntimeException> due, Deed deed) {
        refused(what, due, () -> {
            deed.happen();
            return "nothing thrown";
        });
    }

    int count() {
        return passed + failed;
    }

    void end() {
        System.out.println(name + ": " + passed + " checks as due, " + failed + " not");
        if (failed > 0 || passed == 0) {
            System.exit(1);
        }
    }

    /** The answer, or the name of the exception's class. */
    static Object outcome(Call call) {
        try {
            return call.answer();
        } catch (RuntimeException e) {
            return e.getClass().getName();
        }
    }

    static void type(TaxWorkbench bench, String text) {
        for (int i = 0; i < text.length(); i++) {
            bench.appendCharacter(text.charAt(i));
        }
    }

    static int rules(TaxWorkbench bench, String text) {
        type(bench, text);
        return bench.addRules();
    }

    static TaxWorkbench with(String text) {
        TaxWorkbench bench = new TaxWorkbench();
        rules(bench, text);
        return bench;
    }

    private static Object widened(Object number) {
        return number instanceof Integer ? Long.valueOf((Integer) number) : number;
    }
}
