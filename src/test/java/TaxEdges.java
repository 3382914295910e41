/** Promises 20 to 23, 38 and 39, the paragraphs A case and Computation, and the answers' range. */
final class TaxEdges {
    private static final Class<IndexOutOfBoundsException> INDEX = IndexOutOfBoundsException.class;
    private static final Class<IllegalArgumentException> ARGUMENT = IllegalArgumentException.class;
    private static final int LEFT = 0;
    private static final int TAXABLE = 1;
    private static final int SCHEDULED = 2;
    private static final int MINIMUM = 3;
    private static final int BASE = 4;
    private static final int CHARGED = 5;
    private static final int VALUE = 0;
    private static final int USED = 1;
    private static final int LOST = 2;
    private static final int CARRIED_ON = 3;
    private static final int REST = 4;

    private final Sentences s;

    TaxEdges(Sentences sentences) {
        s = sentences;
    }

    void all() {
        amounts();
        cases();
        taxes();
        creditValues();
        creditUse();
        creditDetails();
        questions();
        averages();
    }

    /** A part of the tax of a person with this income, half of it earned. */
    private void part(String rules, int part, int income, long due) {
        TaxWorkbench bench = Benches.alone(rules, 3, income / 2, income - income / 2, 0);
        s.same(rules + " part " + part + " at " + income, bench.taxPart(3, part), due);
    }

    /** The joint tax of a couple with this income, of which each one has the half. */
    private void joint(String rules, int income, long due) {
        TaxWorkbench bench = Benches.couple(rules, income / 2, income - income / 2, 0, 0);
        s.same(rules + " jointly at " + income, bench.jointTax(2), due);
    }

    private void credit(TaxWorkbench bench, String what, int credit, int part, long due) {
        s.same(what + ": part " + part + " of credit " + credit, bench.creditPart(0, credit, part), due);
    }

    private void value(String rules, int earned, int other, int dependents, long due) {
        TaxWorkbench bench = Benches.alone(rules, 0, earned, other, dependents);
        credit(bench, rules + " with " + earned + ", " + other + ", " + dependents, 0, VALUE, due);
    }

    private void amounts() {
        s.in("Amounts");
        s.test("Incomes, thresholds and amounts of rules are whole units from 0 to 9999", () -> {
            s.same("the least income", Benches.alone("b0:999", 0, 0, 0, 0).taxPart(0, TAXABLE), 0);
            s.same("the greatest income", Benches.alone("b0:999", 0, 9999, 9999, 0).taxPart(0, TAXABLE),
                    19998000000L);
            s.refusesOutside(0, 9999, ARGUMENT, (bench, income) -> bench.setPerson(0, income, 0, 0));
        });
        s.test("are told in millionths of a unit, as long", () -> {
            s.same("the least tax", Benches.alone("b0:1", 0, 1, 0, 0).tax(0), 1000);
            TaxWorkbench bench = Benches.alone("b0:999;c0,9999;c0,9999;c0,9999;c0,9999;k9999,0,0,0*", 2, 9999, 9999, 0);
            s.same("the greatest tax alone", bench.tax(2), 19978002000L + 39996000000L);
            bench.setPerson(4, 9999, 9999, 0);
            bench.marry(2, 4);
            s.same("the greatest joint tax", bench.jointTax(2), 39956004000L + 39996000000L);
            s.same("the greatest separate sum", bench.separateTax(2), 2 * (19978002000L + 39996000000L));
            bench.setPerson(0, 0, 0, 9);
            s.same("the greatest credit", bench.creditPart(0, 0, VALUE), 89991000000L);
            s.same("the least marginal rate", Checks.with("b0:1").marginalRate(0, 0), 1000);
            allBeyondInt();
        });
        s.in("Details");
        s.test("All parts of a tax are in millionths.", () -> {
            TaxWorkbench bench = Benches.alone("a2,0,1;b0:1;m0,1;c0,1", 0, 1, 0, 0);
            long[] due = {1999000, 0, 0, 1000, 1000, 1001000};
            for (int i = 0; i < 6; i++) {
                s.same("part " + i, bench.taxPart(0, i), due[i]);
            }
            part("b0:1", SCHEDULED, 1, 1000);
            part("b0:1;a1,2,1", TAXABLE, 3, 2001000);
        });
    }

    /** Each kind of amount, with one that an int could not hold. */
    private void allBeyondInt() {
        String rules = "a9999,9999,0;b0:999;m0,999;c0,9999;k9999,0,0,0*;n9999,0,0,0*";
        TaxWorkbench bench = Benches.alone(rules, 0, 9999, 9999, 1);
        long[] parts = {9999000000L, 9999000000L, 9989001000L, 19978002000L, 19978002000L, 29977002000L};
        for (int i = 0; i < 6; i++) {
            s.same("tax part " + i, bench.taxPart(0, i), parts[i]);
        }
        s.same("used", bench.creditPart(0, 0, USED), 9999000000L);
        s.same("rest", bench.creditPart(0, 0, REST), 19978002000L);
        s.same("curve", bench.curve(0, 9999), 9979002000L);
        s.same("household", bench.householdTax(0), 9979002000L);
        s.same("total", bench.totalTax(), 9979002000L + 5 * 9999000000L);
        bench.setPerson(0, 0, 0, 9);
        s.same("carried on", bench.creditPart(0, 0, CARRIED_ON), 79992000000L);
        s.same("lost", bench.creditPart(0, 1, LOST), 89991000000L);
        bench.closeYear();
        s.same("carried", bench.carried(0, 0), 79992000000L);
    }

    private void cases() {
        s.in("A case");
        s.test("an income x, which is e plus the other income", () -> {
            s.same("nothing", Benches.alone("m0,1", 0, 0, 0, 0).taxPart(0, MINIMUM), 0);
            s.same("earned", Benches.alone("m0,1", 0, 9999, 0, 0).taxPart(0, MINIMUM), 9999000);
            s.same("other", Benches.alone("m0,1", 0, 0, 9999, 0).taxPart(0, MINIMUM), 9999000);
            s.same("both", Benches.alone("m0,1", 0, 9999, 9999, 0).taxPart(0, MINIMUM), 19998000);
        });
        s.test("For a person alone, f is 1.", () -> {
            TaxWorkbench bench = Benches.couple("b0:0,100:1", 101, 0, 0, 0);
            s.same("in a couple, too", bench.tax(2), 1000);
            bench.part(2);
            s.same("in no couple", bench.tax(2), 1000);
        });
        s.test("incomes, dependents and carried amounts are the sums of those of both, and f is 2", () -> {
            TaxWorkbench bench = Benches.couple("m0,100;r1,0,0,0*;r100,10,0,0", 400, 600, 9, 9);
            bench.setPerson(2, 400, 1000, 9);
            bench.setPerson(4, 600, 2000, 9);
            s.same("incomes and dependents", bench.jointTax(4), 400000000 - 18000000 - 10000000);
            TaxWorkbench carrying = Benches.couple("k30,0,0,0", 0, 0, 0, 0);
            carrying.closeYear();
            carrying.part(2);
            carrying.closeYear();
            carrying.marry(2, 4);
            Checks.rules(carrying, "c0,500");
            s.same("carried of both", carrying.carried(2, 0) + carrying.carried(4, 0), 120000000);
            s.same("carried amounts", carrying.jointTax(2), 500000000 - 120000000 - 30000000);
        });
        s.test("All thresholds, starts, exempt incomes and the amount of the allowance count f times.",
                this::countTwice);
    }

    private void countTwice() {
        joint("b0:0,100:100", 200, 0);
        joint("b0:0,100:100", 201, 100000);
        joint("b0:100,9999:0", 19998, 1999800000);
        joint("c100,7", 199, 0);
        joint("c100,7", 200, 7000000);
        joint("c9999,7", 19997, 0);
        joint("c9999,7", 19998, 7000000);
        joint("m100,100", 200, 0);
        joint("m100,100", 201, 100000);
        joint("b0:100;a100,9999,0", 200, 0);
        joint("b0:100;a100,9999,0", 201, 100000);
        joint("b0:100;a100,150,500", 300, 10000000);
        joint("b0:100;a100,150,500", 301, 10150000);
        joint("r50,0,100,100", 200, -50000000);
        joint("r50,0,100,100", 201, -49900000);
    }

    private void taxes() {
        s.in("Computation");
        s.test("The allowance that is left is its amount (f times) less its rate times what x is above", () -> {
            part("a100,300,500", LEFT, 0, 100000000);
            part("a100,300,500", LEFT, 299, 100000000);
            part("a100,300,500", LEFT, 300, 100000000);
            part("a100,300,500", LEFT, 301, 99500000);
            part("a100,300,0", LEFT, 19998, 100000000);
            part("a9999,9999,1", LEFT, 19998, 9989001000L);
            joint("b0:100;a100,300,500", 600, 40000000);
            joint("b0:100;a100,300,500", 601, 40150000);
        });
        s.test("less its rate times what x is above its start (f times), but at least 0.", () -> {
            part("a100,300,500", LEFT, 499, 500000);
            part("a100,300,500", LEFT, 500, 0);
            part("a100,300,500", LEFT, 501, 0);
            part("a0,0,999", LEFT, 19998, 0);
            part("b0:100;a100,300,500", TAXABLE, 501, 501000000);
            joint("b0:100;a100,300,500", 999, 99850000);
            joint("b0:100;a100,300,500", 1000, 100000000);
            joint("b0:100;a100,300,500", 1001, 100100000);
        });
        s.test("The taxable income is x less this, but at least 0.", () -> {
            part("a100,9999,0", TAXABLE, 0, 0);
            part("a100,9999,0", TAXABLE, 99, 0);
            part("a100,9999,0", TAXABLE, 100, 0);
            part("a100,9999,0", TAXABLE, 101, 1000000);
            part("a9999,9999,0", TAXABLE, 19998, 9999000000L);
            joint("b0:100;a100,9999,0", 199, 0);
            joint("b0:100;a100,9999,0", 201, 100000);
        });
        s.test("The scheduled tax is the sum over the brackets", this::scheduled);
        s.test("The minimum is its rate times what x is above the exempt income (f times), or 0.", () -> {
            part("m50,150", MINIMUM, 0, 0);
            part("m50,150", MINIMUM, 49, 0);
            part("m50,150", MINIMUM, 50, 0);
            part("m50,150", MINIMUM, 51, 150000);
            part("m50,0", MINIMUM, 19998, 0);
            part("m9999,999", MINIMUM, 19998, 9989001000L);
            joint("m50,150", 99, 0);
            joint("m50,150", 101, 150000);
        });
        s.test("The base is the greater one of scheduled tax and minimum.", () -> {
            part("b0:100;m50,200", BASE, 0, 0);
            part("b0:100;m50,200", BASE, 99, 9900000);
            part("b0:100;m50,200", BASE, 100, 10000000);
            part("b0:100;m50,200", BASE, 101, 10200000);
        });
        s.test("all charges whose threshold (f times) x is not less than", this::charged);
    }

    private void scheduled() {
        String rules = "b0:100,100:200,300:333";
        part(rules, SCHEDULED, 0, 0);
        part(rules, SCHEDULED, 1, 100000);
        part(rules, SCHEDULED, 99, 9900000);
        part(rules, SCHEDULED, 100, 10000000);
        part(rules, SCHEDULED, 101, 10200000);
        part(rules, SCHEDULED, 299, 49800000);
        part(rules, SCHEDULED, 300, 50000000);
        part(rules, SCHEDULED, 301, 50333000);
        part(rules, SCHEDULED, 19998, 50000000 + 333000L * 19698);
        part("b0:999", SCHEDULED, 19998, 19978002000L);
        part("b0:1,1:2,2:4,3:8,4:16,5:32", SCHEDULED, 5, 31000);
        part("b0:1,1:2,2:4,3:8,4:16,5:32", SCHEDULED, 6, 63000);
        part("b0:0,9999:1", SCHEDULED, 9999, 0);
        part("b0:0,9999:1", SCHEDULED, 10000, 1000);
        part("b0:0,200:100;a100,300,500", SCHEDULED, 300, 0);
        part("b0:0,200:100;a100,300,500", SCHEDULED, 301, 150000);
        joint(rules, 199, 19900000);
        joint(rules, 201, 20200000);
        joint(rules, 599, 99800000);
        joint(rules, 601, 100333000);
    }

    private void charged() {
        part("c100,5", CHARGED, 99, 0);
        part("c100,5", CHARGED, 100, 5000000);
        part("c100,5", CHARGED, 101, 5000000);
        part("c0,5", CHARGED, 0, 5000000);
        part("c9999,5", CHARGED, 9998, 0);
        part("c9999,5", CHARGED, 9999, 5000000);
        part("b0:100;c100,1;c101,2;c100,4;c0,8", CHARGED, 99, 9900000 + 8000000);
        part("b0:100;c100,1;c101,2;c100,4;c0,8", CHARGED, 100, 10000000 + 13000000);
        part("b0:100;c100,1;c101,2;c100,4;c0,8", CHARGED, 101, 10100000 + 15000000);
        part("b0:100;a100,9999,0;c100,5", CHARGED, 100, 5000000);
        part("b0:100;c100,5", BASE, 100, 10000000);
        joint("c100,5", 199, 0);
        joint("c100,5", 200, 5000000);
        joint("c0,5", 0, 5000000);
    }

    private void creditValues() {
        s.in("Computation");
        s.test("The value of a credit is its amount, times d if it is for each dependent", () -> {
            value("n7,0,0,0", 0, 0, 0, 7000000);
            value("n7,0,0,0", 0, 0, 9, 7000000);
            value("n7,0,0,0*", 0, 0, 0, 0);
            value("n7,0,0,0*", 0, 0, 1, 7000000);
            value("n7,0,0,0*", 0, 0, 9, 63000000);
            value("k0,0,0,0*", 0, 0, 9, 0);
            s.same("18 of a couple", Benches.couple("r7,0,0,0*", 0, 0, 9, 9).jointTax(2), -126000000);
        });
        s.test("if its rate of phase-in is not 0, at most that rate times e", () -> {
            value("r50,0,0,0", 0, 0, 0, 50000000);
            value("r50,1,0,0", 0, 0, 0, 0);
            value("r50,1,0,0", 1, 0, 0, 1000);
            value("r50,100,0,0", 499, 9999, 0, 49900000);
            value("r50,100,0,0", 500, 0, 0, 50000000);
            value("r50,100,0,0", 501, 0, 0, 50000000);
            value("r9999,999,0,0", 9999, 9999, 0, 9989001000L);
            joint("r50,100,9999,0", 499, -49900000);
            joint("r50,100,9999,0", 500, -50000000);
            joint("r50,100,9999,0", 501, -50000000);
        });
        s.test("less its rate of phase-out times what x is above its start (f times)", () -> {
            value("k50,0,100,100", 0, 0, 0, 50000000);
            value("k50,0,100,100", 50, 49, 0, 50000000);
            value("k50,0,100,100", 50, 50, 0, 50000000);
            value("k50,0,100,100", 50, 51, 0, 49900000);
            value("k50,0,100,0", 9999, 9999, 0, 50000000);
            value("k50,100,100,100", 101, 0, 0, 10000000);
            joint("r50,0,100,100", 200, -50000000);
            joint("r50,0,100,100", 201, -49900000);
            joint("r50,0,100,100", 699, -100000);
            joint("r50,0,100,100", 701, 0);
        });
        s.test("less its rate of phase-out times what x is above its start (f times), but at least 0.", () -> {
            value("n50,0,100,100", 599, 0, 0, 100000);
            value("n50,0,100,100", 600, 0, 0, 0);
            value("n50,0,100,100", 601, 0, 0, 0);
            value("r0,0,0,999", 9999, 9999, 9, 0);
            value("k9999,1,0,999", 9999, 9999, 0, 0);
        });
        s.in("Details");
        s.test("is multiplied by the number of dependents before it is limited by the phase-in", () -> {
            value("n10,100,0,0*", 299, 0, 3, 29900000);
            value("n10,100,0,0*", 300, 0, 3, 30000000);
            value("n10,100,0,0*", 301, 0, 3, 30000000);
            value("n10,100,0,0*", 90, 0, 9, 9000000);
            value("n10,100,0,0*", 9999, 0, 0, 0);
        });
    }

    private void creditUse() {
        s.in("Computation");
        s.test("beginning with the charged tax as the rest", () -> {
            TaxWorkbench bench = Benches.alone("b0:100;m0,200;c0,3;n0,0,0,0", 0, 10, 0, 0);
            credit(bench, "nothing used", 0, REST, 5000000);
            s.same("without credits", Benches.alone("b0:100;c0,3", 0, 10, 0, 0).tax(0), 4000000);
        });
        s.test("what can be used is the value, plus the carried amount for a credit of kind 2", () -> {
            for (String kind : new String[] {"n", "r", "k"}) {
                TaxWorkbench bench = Checks.with(kind + "5,0,0,0");
                bench.closeYear();
                Checks.rules(bench, "c0,100");
                credit(bench, kind, 0, VALUE, 5000000);
                credit(bench, kind, 0, USED, kind.equals("k") ? 10000000 : 5000000);
            }
            TaxWorkbench bench = Checks.with("k1,0,0,0;k2,0,0,0;k3,0,0,0;k4,0,0,0;k5,0,0,0;k6,0,0,0");
            bench.closeYear();
            Checks.rules(bench, "c0,100");
            for (int i = 0; i < 6; i++) {
                credit(bench, "of six", i, USED, 2000000L * (i + 1));
            }
            bench.marry(0, 5);
            s.same("all of both", bench.jointTax(0), 100000000 - 3 * 21000000);
        });
        s.test("a refundable credit is used wholly", () -> {
            used("c0,6;r5,0,0,0", 0, 5000000, 1000000);
            used("c0,5;r5,0,0,0", 0, 5000000, 0);
            used("c0,4;r5,0,0,0", 0, 5000000, -1000000);
            used("r5,0,0,0", 0, 5000000, -5000000);
            used("r1,0,0,0;r5,0,0,0", 1, 5000000, -6000000);
        });
        s.test("any other one up to the rest, if this is greater than 0", () -> {
            for (String kind : new String[] {"n", "k"}) {
                used("c0,6;" + kind + "5,0,0,0", 0, 5000000, 1000000);
                used("c0,5;" + kind + "5,0,0,0", 0, 5000000, 0);
                used("c0,4;" + kind + "5,0,0,0", 0, 4000000, 0);
                used(kind + "5,0,0,0", 0, 0, 0);
                used("r1,0,0,0;" + kind + "5,0,0,0", 1, 0, -1000000);
                used("c0,1;r0,999,0,0;" + kind + "5,0,0,0", 1, 1000000, 0);
                TaxWorkbench bench = Benches.alone("b0:1;" + kind + "5,0,0,0", 0, 1, 0, 0);
                credit(bench, kind + " up to the least rest", 0, USED, 1000);
            }
        });
        s.test("what is used is taken from the rest", () -> {
            used("c0,9;n2,0,0,0;k3,0,0,0;r5,0,0,0;n1,0,0,0", 0, 2000000, 7000000);
            used("c0,9;n2,0,0,0;k3,0,0,0;r5,0,0,0;n1,0,0,0", 1, 3000000, 4000000);
            used("c0,9;n2,0,0,0;k3,0,0,0;r5,0,0,0;n1,0,0,0", 2, 5000000, -1000000);
            used("c0,9;n2,0,0,0;k3,0,0,0;r5,0,0,0;n1,0,0,0", 3, 0, -1000000);
        });
        s.test("The tax is the rest in the end; it can be negative.", () -> {
            s.same("greater than 0", Checks.with("c0,6;n2,0,0,0;r3,0,0,0").tax(0), 1000000);
            s.same("0", Checks.with("c0,5;n2,0,0,0;r3,0,0,0").tax(0), 0);
            s.same("negative", Checks.with("c0,4;n2,0,0,0;r3,0,0,0").tax(0), -1000000);
            s.same("no credits", Checks.with("c0,4").tax(0), 4000000);
            s.same("the least", Benches.alone("r9999,0,0,0*;r9999,0,0,0*", 0, 0, 0, 9).tax(0), -179982000000L);
        });
    }

    private void used(String rules, int credit, long used, long rest) {
        TaxWorkbench bench = Checks.with(rules);
        credit(bench, rules, credit, USED, used);
        credit(bench, rules, credit, REST, rest);
    }

    private void creditDetails() {
        s.in("Computation");
        s.test("What a credit of kind 2 could not use is its new carried amount", () -> {
            unused("k", 9, 0, 0);
            unused("k", 5, 0, 0);
            unused("k", 4, 0, 1000000);
            unused("k", 0, 0, 5000000);
            TaxWorkbench bench = Checks.with("k5,0,0,0");
            bench.closeYear();
            credit(bench, "with a carried amount", 0, CARRIED_ON, 10000000);
            s.same("asking does not carry it", bench.carried(0, 0), 5000000);
        });
        s.test("what a limited one could not use is lost", () -> {
            unused("n", 9, 0, 0);
            unused("n", 5, 0, 0);
            unused("n", 4, 1000000, 0);
            unused("n", 0, 5000000, 0);
        });
        s.in("Details");
        s.test("For credits that are not limited nothing is lost.", () -> {
            unused("r", 9, 0, 0);
            unused("r", 0, 0, 0);
            credit(Checks.with("k5,0,0,0"), "carried", 0, LOST, 0);
            credit(Checks.with("r1,0,0,0;r5,0,0,0"), "refundable", 1, LOST, 0);
            credit(Checks.with("n5,0,0,0"), "limited", 0, LOST, 5000000);
        });
    }

    /** Of a credit of 5, with this charged tax. */
    private void unused(String kind, int charged, long lost, long carriedOn) {
        TaxWorkbench bench = Checks.with("c0," + charged + ";" + kind + "5,0,0,0");
        credit(bench, kind + " of " + charged, 0, LOST, lost);
        credit(bench, kind + " of " + charged, 0, CARRIED_ON, carriedOn);
        bench.closeYear();
        s.same(kind + " of " + charged + " carried", bench.carried(0, 0), carriedOn);
    }

    private void questions() {
        s.promise(20);
        s.test("Returns the tax of a person alone, in a couple or not.", () -> {
            TaxWorkbench bench = Benches.couple("b0:100,100:200;n1,0,0,0*", 300, 0, 1, 9);
            s.same("in a couple", bench.tax(2), 49000000);
            bench.part(4);
            s.same("in no couple", bench.tax(2), 49000000);
        });
        s.promise(21);
        s.test("`part`: 0 for the allowance that is left, 1 for the taxable income, 2 for the scheduled", () -> {
            long[] due = {90000000, 110000000, 11000000, 15000000, 15000000, 22000000};
            for (int i = 0; i < 6; i++) {
                part("a100,180,500;b0:100;m50,100;c200,7", i, 200, due[i]);
            }
        });
        s.test("Throws `IllegalArgumentException` if the part is out of range",
                () -> s.refusesOutside(0, 5, ARGUMENT, (bench, part) -> bench.taxPart(0, part)));
        creditQuestions();
    }

    private void creditQuestions() {
        s.promise(22);
        s.test("`credit`: the number of the credit", () -> {
            TaxWorkbench bench = Benches.full();
            s.same("the first one", bench.creditPart(0, 0, VALUE), 1000000);
            bench.setPerson(0, 1000, 0, 1);
            s.same("the last one", bench.creditPart(0, 5, VALUE), 0);
            s.same("the fifth one", bench.creditPart(0, 4, VALUE), 5000000);
        });
        s.test("`part`: 0 for its value, 1 for what is used of it, 2 for what is lost", () -> {
            TaxWorkbench bench = Checks.with("c0,7;n9,0,0,0;k8,0,0,0");
            long[][] due = {{9000000, 7000000, 2000000, 0, 0}, {8000000, 0, 0, 8000000, 0}};
            for (int i = 0; i < 10; i++) {
                credit(bench, "each", i / 5, i % 5, due[i / 5][i % 5]);
            }
        });
        s.test("Throws `IndexOutOfBoundsException` if there is no such person or credit", () -> {
            s.same("the last ones", Benches.full().creditPart(5, 5, VALUE), 0);
            s.refusesOutside(0, 5, INDEX, (bench, person) -> bench.creditPart(person, 0, 0));
            s.refusesOutside(0, 2, INDEX, (bench, credit) -> bench.creditPart(0, credit, 0));
            s.refusesOutside(0, 5, INDEX, Benches::full, (bench, credit) -> bench.creditPart(5, credit, 4));
            s.refusesOutside(0, -1, INDEX, TaxWorkbench::new, (bench, credit) -> bench.creditPart(0, credit, 0));
            s.refuses("no part either", INDEX, bench -> bench.creditPart(0, 3, 5));
        });
        s.test("Throws `IllegalArgumentException` if the part is out of range",
                () -> s.refusesOutside(0, 4, ARGUMENT, (bench, part) -> bench.creditPart(0, 0, part)));
        s.promise(23);
        s.test("`credit`: the number of the credit", () -> {
            TaxWorkbench bench = Checks.with("k1,0,0,0;k2,0,0,0;n3,0,0,0;r4,0,0,0;k5,0,0,0;k6,0,0,0");
            bench.closeYear();
            long[] due = {1000000, 2000000, 0, 0, 5000000, 6000000};
            for (int i = 0; i < 6; i++) {
                s.same("credit " + i, bench.carried(0, i), due[i]);
            }
        });
        s.test("Throws `IndexOutOfBoundsException` if there is no such person or credit", () -> {
            s.same("the last ones", Benches.full().carried(5, 5), 0);
            s.refusesOutside(0, 5, INDEX, (bench, person) -> bench.carried(person, 0));
            s.refusesOutside(0, 2, INDEX, (bench, credit) -> bench.carried(0, credit));
            s.refusesOutside(0, 5, INDEX, Benches::full, (bench, credit) -> bench.carried(5, credit));
            s.refusesOutside(0, -1, INDEX, TaxWorkbench::new, (bench, credit) -> bench.carried(0, credit));
        });
    }

    private void averages() {
        s.promise(38);
        s.test("divided by a million times the income x, both converted to double", () -> {
            s.same("an income of 1", Benches.alone("b0:1", 0, 0, 1, 0).averageRate(0), 0.001);
            s.same("the greatest", Benches.alone("b0:999", 0, 9999, 9999, 0).averageRate(0), 0.999);
            s.same("no tax", Benches.alone("b0:0", 0, 1, 0, 0).averageRate(0), 0.0);
            s.same("a negative one", Benches.alone("r9999,0,0,0*", 0, 1, 0, 9).averageRate(0), -89991.0);
            s.same("a third", Benches.alone("c0,1", 0, 1, 2, 0).averageRate(0), 1000000.0 / 3000000.0);
        });
        s.test("Throws `ArithmeticException` if the income is 0", () -> {
            s.same("earned", Benches.alone("b0:500", 0, 1, 0, 0).averageRate(0), 0.5);
            s.same("other", Benches.alone("b0:500", 0, 0, 1, 0).averageRate(0), 0.5);
            s.refuses("neither", ArithmeticException.class, bench -> bench.averageRate(2));
            s.refuses("with a partner's income", ArithmeticException.class, bench -> bench.averageRate(4));
            s.refuses("no such person", INDEX, bench -> bench.averageRate(6));
            s.refuses("with a tax", ArithmeticException.class, () -> Checks.with("c0,9999"),
                    bench -> bench.averageRate(0));
        });
        s.promise(39);
        s.test("Returns the number of all dependents, divided by 6, both converted to float.", () -> {
            TaxWorkbench bench = new TaxWorkbench();
            s.same("none", bench.averageDependents(), 0.0f);
            bench.setPerson(5, 0, 0, 1);
            s.same("one", bench.averageDependents(), 1.0f / 6.0f);
            for (int i = 0; i < 6; i++) {
                bench.setPerson(i, 0, 0, 9);
            }
            s.same("all", bench.averageDependents(), 9.0f);
            bench.setPerson(0, 0, 0, 8);
            s.same("one fewer", bench.averageDependents(), 53.0f / 6.0f);
        });
    }
}
