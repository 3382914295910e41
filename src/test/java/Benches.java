/** Benches to begin a test with. Each call makes a new one, by always the same calls. */
final class Benches {
    /** 16 items in 80 characters, with which a text is full. */
    static final String FULL_TEXT = "m0,0;".repeat(15) + "m0,00";
    static final String SIX_BRACKETS = "b0:1,10:2,20:3,30:4,40:5,9999:999";
    static final String FOUR_CHARGES = "c100,1;c100,2;c0,3;c9999,9999";
    static final String SIX_CREDITS = "n1,0,0,0;r2,0,0,0;k3,0,0,0;n4,0,0,0*;r5,0,0,0*;k6,7,8,9*";

    interface Recipe {
        TaxWorkbench make();
    }

    private Benches() {
    }

    /**
     * All of its state differs from a new one's, and what is saved from what is so now. More than
     * six changes were made. Two couples have what carries on, 2 and 3 are alone.
     */
    static TaxWorkbench used() {
        TaxWorkbench bench = Checks.with("m9,8;k50,0,0,0");
        bench.setPerson(0, 700, 20, 3);
        bench.closeYear();
        bench.save();
        Checks.rules(bench, "b0:100,500:250;a100,300,500;c400,7;n20,100,300,50;r10,0,0,0*");
        bench.setPerson(1, 300, 5, 2);
        bench.setPerson(3, 40, 2, 1);
        bench.marry(1, 0);
        bench.setPerson(5, 9999, 9999, 9);
        bench.marry(4, 5);
        bench.closeYear();
        Checks.outcome(bench::addRules);
        return bench;
    }

    /** The used one with a text that has begun, and that two characters more make allowed. */
    static TaxWorkbench busy() {
        TaxWorkbench bench = used();
        Checks.type(bench, "m12,3");
        return bench;
    }

    /** The used one with a text that is full. */
    static TaxWorkbench written() {
        TaxWorkbench bench = used();
        Checks.type(bench, FULL_TEXT);
        return bench;
    }

    /** As many brackets, charges and credits as there can be. */
    static TaxWorkbench full() {
        TaxWorkbench bench = Checks.with(SIX_BRACKETS + ";" + FOUR_CHARGES);
        Checks.rules(bench, SIX_CREDITS);
        return bench;
    }

    static TaxWorkbench alone(String rules, int person, int earned, int other, int dependents) {
        TaxWorkbench bench = Checks.with(rules);
        bench.setPerson(person, earned, other, dependents);
        return bench;
    }

    /** Persons 2 and 4 as a couple with these earned incomes and dependents. */
    static TaxWorkbench couple(String rules, int earned2, int earned4, int dependents2, int dependents4) {
        TaxWorkbench bench = Checks.with(rules);
        bench.setPerson(2, earned2, 0, dependents2);
        bench.setPerson(4, earned4, 0, dependents4);
        bench.marry(4, 2);
        return bench;
    }
}
