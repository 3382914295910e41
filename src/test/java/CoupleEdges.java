/** Promises 24 to 31 and the paragraphs Couples and Years. */
final class CoupleEdges {
    /** What a couple of 99 and 101 pays jointly is less than separately by the least amount there is. */
    private static final String JOINT_BY_LEAST = "b0:100,100:101";
    private static final String EQUAL = "b0:100";
    private static final String SEPARATE_BY_LEAST = "b0:101,100:100";

    private final Sentences s;

    CoupleEdges(Sentences sentences) {
        s = sentences;
    }

    void all() {
        divisions();
        choices();
        households();
        questions();
        totals();
        years();
    }

    private void division(TaxWorkbench bench, String what, int first, long sum) {
        for (int i : new int[] {2, 4}) {
            s.same(what + ": division of " + i, bench.division(i), first);
            s.same(what + ": sum of " + i, bench.separateTax(i), sum);
        }
    }

    private void divisions() {
        s.in("Couples");
        String rules = "b0:100;n10,0,0,0*";
        s.test("the first one of both, with the lower number, gets some of them, the other one the rest", () -> {
            division(Benches.couple(rules, 300, 0, 0, 3), "the first one needs all", 3, 0);
            division(Benches.couple(rules, 0, 300, 3, 0), "the other one needs all", 0, 0);
            TaxWorkbench bench = Benches.couple(rules, 100, 200, 2, 1);
            division(bench, "the first one needs one", 1, 0);
            bench.part(2);
            bench.marry(2, 4);
            division(bench, "married the other way round", 1, 0);
            s.same("what they are told to have stays", bench.personData(2, 2), 2);
        });
        s.test("among all divisions the one with the least sum of both taxes counts", () -> {
            division(Benches.couple(rules, 0, 0, 0, 0), "none", 0, 0);
            division(Benches.couple(rules, 100, 100, 0, 0), "none to divide", 0, 20000000);
            division(Benches.couple(rules, 100, 0, 0, 1), "one", 1, 0);
            division(Benches.couple(rules, 1800, 0, 9, 9), "all to the first one", 18, 0);
            division(Benches.couple(rules, 1700, 100, 9, 9), "all but one to the first one", 17, 0);
            division(Benches.couple(rules, 100, 1700, 9, 9), "one to the first one", 1, 0);
            division(Benches.couple(rules, 0, 1800, 9, 9), "none to the first one", 0, 0);
            division(Benches.couple("b0:100;r10,0,100,1*", 100, 101, 0, 1), "one, by the least amount", 1, 10100000);
            division(Benches.couple("b0:100;r10,0,100,1*", 101, 100, 0, 1), "none, by the least", 0, 10100000);
        });
        s.test("and of several the one in which the first one gets the fewest", () -> {
            division(Benches.couple(rules, 0, 0, 9, 9), "all are equal", 0, 0);
            division(Benches.couple("r10,0,0,0*", 500, 100, 9, 9), "all are equal and negative", 0, -180000000);
            division(Benches.couple(rules, 100, 100, 9, 9), "1 to 17 are equal", 1, 0);
            division(Benches.couple(rules, 200, 100, 3, 3), "2 to 5 are equal", 2, 0);
            division(Benches.couple(rules, 1800, 1800, 0, 9), "all are equal, above 0", 0, 270000000);
        });
    }

    private void choices() {
        s.in("Couples");
        s.test("joint if the joint tax is less than the separate sum, otherwise separate", () -> {
            chosen(JOINT_BY_LEAST, 20000000, 20001000, true);
            chosen(EQUAL, 20000000, 20000000, false);
            chosen(SEPARATE_BY_LEAST, 20200000, 20199000, false);
            chosen("r5,0,0,0", -5000000, -10000000, false);
            chosen("b0:0", 0, 0, false);
        });
        s.promise(27);
        s.test("Returns whether the choice of a couple is joint.", () -> {
            s.same("joint", Benches.couple(JOINT_BY_LEAST, 99, 101, 0, 0).choosesJoint(4), true);
            s.same("equal", Benches.couple(EQUAL, 99, 101, 0, 0).choosesJoint(4), false);
            s.same("separate", Benches.couple(SEPARATE_BY_LEAST, 99, 101, 0, 0).choosesJoint(4), false);
        });
    }

    private void chosen(String rules, long joint, long separate, boolean jointly) {
        TaxWorkbench bench = Benches.couple(rules, 99, 101, 0, 0);
        for (int i : new int[] {2, 4}) {
            s.same(rules + ": joint tax of " + i, bench.jointTax(i), joint);
            s.same(rules + ": separate sum of " + i, bench.separateTax(i), separate);
            s.same(rules + ": choice of " + i, bench.choosesJoint(i), jointly);
            s.same(rules + ": household of " + i, bench.householdTax(i), Math.min(joint, separate));
        }
    }

    private void households() {
        s.in("Couples");
        s.test("the tax of the choice for both together, of others the tax for the person alone", () -> {
            TaxWorkbench bench = Benches.couple(JOINT_BY_LEAST, 99, 101, 0, 0);
            s.same("of the first one", bench.householdTax(2), 20000000);
            s.same("of the other one", bench.householdTax(4), 20000000);
            bench.setPerson(3, 101, 0, 0);
            s.same("of one in no couple", bench.householdTax(3), 10101000);
            bench.part(4);
            s.same("of the first one alone", bench.householdTax(2), 9900000);
            s.same("of the other one alone", bench.householdTax(4), 10101000);
        });
        s.promise(28);
        s.test("Returns the household tax of a person.", () -> {
            s.same("with no couple", Benches.alone("b0:100", 5, 10, 0, 0).householdTax(5), 1000000);
            s.same("with a separate couple", Benches.couple(EQUAL, 99, 101, 0, 0).householdTax(4), 20000000);
        });
    }

    private void questions() {
        s.promise(24);
        s.test("Returns the tax of a couple that is taxed jointly.", () -> {
            s.same("though separate is less", Benches.couple(SEPARATE_BY_LEAST, 99, 101, 0, 0).jointTax(2), 20200000);
            s.same("the least", Benches.couple("r9999,0,0,0*", 0, 0, 9, 9).jointTax(2), -179982000000L);
        });
        s.promise(25);
        s.test("with the division of the dependents that counts", () -> {
            s.same("the best", Benches.couple("b0:100;n10,0,0,0*", 100, 0, 0, 1).separateTax(2), 0);
            s.same("the least", Benches.couple("r9999,0,0,0*", 0, 0, 9, 9).separateTax(2), -179982000000L);
        });
        s.promise(26);
        s.test("Returns how many dependents the first one of a couple gets in the division that counts.", () -> {
            s.same("none", Benches.couple("n10,0,0,0*", 0, 0, 9, 9).division(4), 0);
            s.same("all", Benches.couple("b0:100;n10,0,0,0*", 9999, 0, 9, 9).division(4), 18);
        });
    }

    private void totals() {
        s.promise(29);
        s.test("Returns the sum of all household taxes, each couple counted once.", () -> {
            s.same("no taxes", new TaxWorkbench().totalTax(), 0);
            TaxWorkbench bench = Checks.with("b0:100,100:200");
            for (int i = 0; i < 6; i++) {
                bench.setPerson(i, 50 + 30 * i, 0, 0);
            }
            s.same("no couple", bench.totalTax(), 5000000 + 8000000 + 12000000 + 18000000 + 24000000 + 30000000);
            bench.marry(5, 0);
            s.same("the first and the last one", bench.totalTax(), 8000000 + 12000000 + 18000000 + 24000000 + 30000000);
            bench.marry(2, 3);
            s.same("neighbours, too", bench.totalTax(), 8000000 + 30000000 + 24000000 + 30000000);
            bench.marry(1, 4);
            s.same("three couples", bench.totalTax(), 30000000 + 30000000 + 30000000);
            bench.clearRules();
            Checks.rules(bench, "r9999,0,0,0*");
            for (int i = 0; i < 6; i++) {
                bench.setPerson(i, 0, 0, 9);
            }
            s.same("the least", bench.totalTax(), -6 * 89991000000L);
        });
    }

    private void carried(TaxWorkbench bench, String what, long... due) {
        for (int i = 0; i < due.length; i++) {
            s.same(what + ": carried of " + i, bench.carried(i, 0), due[i] * 1000000);
        }
    }

    private void years() {
        s.in("Years");
        s.test("Closing a year finds all household taxes, and then the carried amounts become the new ones", () -> {
            TaxWorkbench bench = Checks.with("b0:100;k10,0,0,0");
            bench.setPerson(0, 40, 0, 0);
            bench.setPerson(5, 100, 0, 0);
            bench.marry(1, 3);
            carried(bench, "before", 0, 0, 0, 0, 0, 0);
            bench.closeYear();
            carried(bench, "the first year", 6, 10, 10, 10, 10, 0);
            bench.closeYear();
            carried(bench, "the second year", 12, 20, 20, 20, 20, 0);
            bench.setPerson(0, 9999, 0, 0);
            bench.closeYear();
            carried(bench, "the third year", 0, 30, 30, 30, 30, 0);
        });
        s.test("they become those of the first one, and those of the other one become 0", () -> {
            jointYear(300, 0);
            jointYear(0, 300);
            jointYearOfCarrying();
            TaxWorkbench bench = Benches.couple("b0:0,100:500;k50,0,0,0", 200, 100, 0, 0);
            s.same("equal", bench.jointTax(2) == bench.separateTax(2), true);
            bench.closeYear();
            carried(bench, "equal", 50, 50, 0, 50, 50, 50);
        });
        s.test("The years are counted.", () -> {
            TaxWorkbench bench = new TaxWorkbench();
            s.same("none", bench.years(), 0);
            for (int i = 1; i <= 200; i++) {
                s.same("closing year " + i, bench.closeYear(), i);
            }
            s.same("all", bench.years(), 200);
        });
        s.in("Details");
        s.test("A couple taxed separately closes the year with the division of dependents that counts.", () -> {
            TaxWorkbench bench = Benches.couple("b0:100;k10,0,0,0*", 100, 0, 0, 3);
            bench.closeYear();
            carried(bench, "one to the first one", 0, 0, 0, 0, 20, 0);
            bench = Benches.couple("b0:100;k10,0,0,0*", 0, 100, 3, 0);
            bench.closeYear();
            carried(bench, "none to the first one", 0, 0, 0, 0, 20, 0);
            bench = Benches.couple("b0:100;k10,0,0,0*", 1700, 0, 9, 9);
            bench.closeYear();
            carried(bench, "seventeen to the first one", 0, 0, 0, 0, 10, 0);
        });
        countedYears();
    }

    private void jointYear(int earned2, int earned4) {
        TaxWorkbench bench = Benches.couple("b0:0,100:500;k70,0,0,0", earned2, earned4, 0, 0);
        s.same("jointly", bench.choosesJoint(2), true);
        bench.closeYear();
        carried(bench, earned2 + " and " + earned4, 70, 70, 20, 70, 0, 70);
        bench.part(4);
        carried(bench, earned2 + " and " + earned4 + ", parted", 70, 70, 20, 70, 0, 70);
    }

    /** Both carry on from a separate year, with as many credits as there can be. */
    private void jointYearOfCarrying() {
        TaxWorkbench bench = Benches.couple("k70,0,0,0;k1,0,0,0;k2,0,0,0;k3,0,0,0;k4,0,0,0;k5,0,0,0", 0, 0, 0, 0);
        bench.closeYear();
        s.same("carried of the other one", bench.carried(4, 0), 70000000);
        Checks.rules(bench, "b0:0,100:500");
        bench.setPerson(4, 600, 0, 0);
        s.same("jointly with what is carried", bench.choosesJoint(4), true);
        bench.closeYear();
        long[] due = {10000000, 3000000, 6000000, 9000000, 12000000, 15000000};
        for (int i = 0; i < 6; i++) {
            s.same("carried of both for credit " + i, bench.carried(2, i), due[i]);
            s.same("carried of the other one for credit " + i, bench.carried(4, i), 0);
        }
    }

    private void countedYears() {
        s.promise(30);
        s.test("Returns the number of years that were closed.", () -> {
            TaxWorkbench bench = new TaxWorkbench();
            s.same("the first one", bench.closeYear(), 1);
            s.same("the second one", bench.closeYear(), 2);
            bench.undo();
            s.same("one taken back", bench.closeYear(), 2);
        });
        s.promise(31);
        s.test("Returns the number of years that were closed.", () -> {
            TaxWorkbench bench = new TaxWorkbench();
            s.same("none", bench.years(), 0);
            bench.closeYear();
            s.same("one", bench.years(), 1);
            bench.clearRules();
            s.same("rules cleared", bench.years(), 1);
            bench.undo();
            bench.undo();
            s.same("none again", bench.years(), 0);
        });
    }
}
