import java.util.NoSuchElementException;

/** Promises 24 to 31: joint and separate taxes, divisions, choices, sums, and closing years. */
public final class CouplesTest {
    private static final Class<IndexOutOfBoundsException> INDEX = IndexOutOfBoundsException.class;
    private static final Class<NoSuchElementException> ELEMENT = NoSuchElementException.class;
    private static final Checks checks = new Checks("CouplesTest");

    public static void main(String[] args) {
        bothWays();
        jointCarried();
        jointPhaseIn();
        divisions();
        allDependentsToOne();
        equalTaxesAreSeparate();
        totals();
        yearsApart();
        yearsTogether();
        yearsOfTwoCouples();
        refusals();
        checks.end();
    }

    private static void couple(TaxWorkbench bench, int person, long joint, long separate, int division) {
        checks.same("joint tax of " + person, bench.jointTax(person), joint);
        checks.same("separate tax of " + person, bench.separateTax(person), separate);
        checks.same("division of " + person, bench.division(person), division);
        checks.same("choice of " + person, bench.choosesJoint(person), joint < separate);
        checks.same("household of " + person, bench.householdTax(person), Math.min(joint, separate));
    }

    /** Jointly, thresholds, starts, the exempt income and the allowance count twice; no amounts else. */
    private static void bothWays() {
        TaxWorkbench bench = Checks.with(
                "a10,20,500;m100,100;c150,9;n30,0,150,100;k40,0,0,0;b0:200,100:400");
        bench.setPerson(1, 200, 50, 1);
        bench.setPerson(4, 100, 0, 0);
        bench.marry(4, 1);
        couple(bench, 1, 44000000, 29000000, 0);
        couple(bench, 4, 44000000, 29000000, 0);
        Checks.rules(bench, "b0:0;m100,100;a10,300,500");
        couple(bench, 1, 0, 0, 0);
        bench.removeCredit(0);
        bench.removeCredit(0);
        couple(bench, 1, 15000000 + 9000000, 15000000 + 9000000, 0);
        Checks.rules(bench, "b0:100;m0,0;a30,150,200");
        couple(bench, 4, 30000000 + 9000000, 24000000 + 7000000 + 9000000, 0);
        Checks.rules(bench, "c175,0;c176,100");
        couple(bench, 4, 39000000, 140000000, 0);
    }

    private static void jointCarried() {
        TaxWorkbench bench = Checks.with("k40,100,0,0;b0:100");
        bench.setPerson(2, 90, 0, 0);
        bench.setPerson(3, 110, 0, 0);
        bench.setPerson(4, 0, 300, 0);
        bench.closeYear();
        checks.same("nothing left", bench.carried(2, 0), 0);
        bench.clearRules();
        Checks.rules(bench, "k40,0,0,0;b0:100");
        bench.closeYear();
        checks.same("carried of 2", bench.carried(2, 0), 31000000);
        checks.same("carried of 3", bench.carried(3, 0), 29000000);
        bench.setPerson(2, 700, 0, 0);
        bench.setPerson(3, 600, 0, 0);
        bench.marry(2, 3);
        couple(bench, 3, 130000000 - 40000000 - 60000000, 0, 0);
        bench.setPerson(2, 720, 0, 0);
        couple(bench, 3, 132000000 - 40000000 - 60000000, 1000000, 0);
    }

    private static void jointPhaseIn() {
        TaxWorkbench bench = Checks.with("r50,100,100,20");
        bench.setPerson(1, 200, 60, 0);
        bench.setPerson(0, 100, 30, 0);
        bench.marry(0, 1);
        couple(bench, 1, -30000000 + 3800000, -20000000 + 3200000 - 10000000 + 600000, 0);
        bench.setPerson(1, 2000, 60, 0);
        couple(bench, 0, -50000000 + 39800000, -10800000 - 9400000, 0);
    }

    private static void divisions() {
        TaxWorkbench bench = Checks.with("b0:100;n10,0,0,0*;n0,0,0,0");
        bench.setPerson(0, 150, 0, 0);
        bench.setPerson(5, 350, 0, 4);
        bench.marry(5, 0);
        couple(bench, 0, 10000000, 10000000, 1);
        bench.setPerson(0, 150, 0, 3);
        bench.setPerson(5, 350, 0, 1);
        couple(bench, 5, 10000000, 10000000, 1);
        bench.setPerson(0, 140, 0, 0);
        couple(bench, 5, 39000000, 39000000, 0);
        bench.setPerson(5, 0, 0, 9);
        couple(bench, 5, 0, 0, 2);
        bench.setPerson(5, 0, 0, 1);
        couple(bench, 5, 4000000, 4000000, 1);
        bench.setPerson(0, 0, 0, 1);
        couple(bench, 5, 0, 0, 0);
    }

    private static void allDependentsToOne() {
        TaxWorkbench bench = Checks.with("b0:0,100:500;n10,0,0,0*");
        bench.setPerson(2, 900, 0, 9);
        bench.setPerson(3, 100, 0, 9);
        bench.marry(2, 3);
        couple(bench, 2, 400000000 - 180000000, 400000000 - 180000000, 18);
        bench.setPerson(3, 9999, 9999, 9);
        bench.setPerson(2, 100, 0, 9);
        couple(bench, 2, 9949000000L - 180000000L, 9949000000L - 180000000L, 0);
    }

    private static void equalTaxesAreSeparate() {
        TaxWorkbench bench = Checks.with("b0:100;k20,0,0,0");
        bench.setPerson(0, 300, 0, 0);
        bench.setPerson(1, 100, 0, 0);
        bench.marry(0, 1);
        couple(bench, 0, 20000000, 10000000, 0);
        bench.closeYear();
        checks.same("the second one carries", bench.carried(1, 0), 10000000);
        bench.removeCredit(0);
        couple(bench, 0, 40000000, 40000000, 0);
        checks.same("an equal choice", bench.choosesJoint(1), false);
    }

    private static void totals() {
        TaxWorkbench bench = Checks.with("b0:0,100:500");
        for (int i = 0; i < 6; i++) {
            bench.setPerson(i, 40 * i + 60, 0, 0);
        }
        checks.same("all alone", bench.totalTax(), 20000000 + 40000000 + 60000000 + 80000000);
        bench.marry(5, 0);
        checks.same("a couple", bench.totalTax(), 60000000 + 20000000 + 40000000 + 60000000);
        bench.marry(2, 4);
        checks.same("two couples", bench.totalTax(), 60000000 + 80000000 + 40000000);
        bench.marry(1, 3);
        checks.same("three couples", bench.totalTax(), 60000000 + 80000000 + 40000000);
        checks.same("household in a couple", bench.householdTax(5), 60000000);
        checks.same("household of the other one", bench.householdTax(0), 60000000);
        bench.part(0);
        checks.same("household alone", bench.householdTax(5), 80000000);
        checks.same("another household alone", bench.householdTax(0), 0);
    }

    private static void yearsApart() {
        TaxWorkbench bench = Checks.with("k10,0,0,0*;b0:100;r0,0,0,0;n5,0,0,0");
        bench.setPerson(1, 100, 0, 3);
        bench.setPerson(3, 0, 0, 0);
        bench.marry(3, 1);
        couple(bench, 3, 0, 0, 1);
        checks.same("first year", bench.closeYear(), 1);
        checks.same("years", bench.years(), 1);
        checks.same("carried of the first one", bench.carried(1, 0), 0);
        checks.same("carried of the second one", bench.carried(3, 0), 20000000);
        checks.same("carried without dependents", bench.carried(0, 0), 0);
        checks.same("carried of a refundable credit", bench.carried(1, 1), 0);
        checks.same("carried of a limited credit", bench.carried(3, 2), 0);
        checks.same("second year", bench.closeYear(), 2);
        checks.same("carried of the second one then", bench.carried(3, 0), 40000000);
    }

    private static void yearsTogether() {
        TaxWorkbench bench = Checks.with("b0:0,1000:500;k50,0,0,0;k7,0,0,0");
        bench.setPerson(4, 2000, 0, 0);
        bench.marry(4, 2);
        couple(bench, 2, 0, 443000000, 0);
        bench.closeYear();
        checks.same("carried of the first one", bench.carried(2, 0), 50000000);
        checks.same("its other credit", bench.carried(2, 1), 7000000);
        checks.same("carried of the second one", bench.carried(4, 0), 0);
        checks.same("carried of a person alone", bench.carried(5, 0), 50000000);
        bench.part(2);
        bench.closeYear();
        checks.same("carried apart", bench.carried(2, 0), 100000000);
        checks.same("carried apart by the other one", bench.carried(4, 0), 0);
        bench.setPerson(4, 0, 0, 0);
        bench.closeYear();
        checks.same("now by both", bench.carried(4, 0), 50000000);
        bench.setPerson(4, 2100, 0, 0);
        bench.marry(2, 4);
        checks.same("joint with both carried", bench.jointTax(4), 0);
        checks.same("fourth year", bench.closeYear(), 4);
        checks.same("what both had", bench.carried(2, 0), 150000000 + 50000000);
        checks.same("what both had in the other one", bench.carried(2, 1), 21000000 + 7000000 + 7000000);
        checks.same("nothing of the second one", bench.carried(4, 0), 0);
        checks.same("nothing of its other credit", bench.carried(4, 1), 0);
        checks.same("years", bench.years(), 4);
        bench.undo();
        checks.same("years taken back", bench.years(), 3);
        checks.same("carried taken back", bench.carried(4, 0), 50000000);
    }

    /** Nobody has asked for a couple's tax before the year is closed. */
    private static void yearsOfTwoCouples() {
        TaxWorkbench bench = Checks.with("b0:100;k10,0,0,0;k1,0,0,0*");
        bench.setPerson(1, 30, 0, 2);
        bench.setPerson(2, 200, 0, 0);
        bench.setPerson(4, 105, 0, 1);
        bench.setPerson(5, 20, 0, 0);
        bench.marry(5, 4);
        bench.marry(1, 2);
        bench.closeYear();
        long[][] due = {{10, 0}, {7, 0}, {0, 0}, {10, 0}, {0, 500}, {8, 0}};
        for (int i = 0; i < 6; i++) {
            checks.same("carried of " + i, bench.carried(i, 0), due[i][0] * 1000000);
            checks.same("the other one of " + i, bench.carried(i, 1), due[i][1] * 1000);
        }
        bench.clearRules();
        Checks.rules(bench, "m80,999;k1,0,0,0;k2,0,0,0;k3,0,0,0;k4,0,0,0;k5,0,0,0;k6,0,0,0");
        bench.closeYear();
        for (int i = 0; i < 6; i++) {
            checks.same("credit " + i + " of 4, jointly", bench.carried(4, i), 1000000L * (i + 1));
            checks.same("credit " + i + " of 5, jointly", bench.carried(5, i), 0);
        }
        bench.undo();
        bench.undo();
        bench.undo();
        checks.same("division with what is carried", bench.division(4), 0);
    }

    private static void refusals() {
        TaxWorkbench bench = new TaxWorkbench();
        bench.marry(0, 1);
        for (int wrong : new int[] {-1, 6, Integer.MAX_VALUE, Integer.MIN_VALUE}) {
            checks.refused("jointTax " + wrong, INDEX, () -> bench.jointTax(wrong));
            checks.refused("separateTax " + wrong, INDEX, () -> bench.separateTax(wrong));
            checks.refused("division " + wrong, INDEX, () -> bench.division(wrong));
            checks.refused("choosesJoint " + wrong, INDEX, () -> bench.choosesJoint(wrong));
            checks.refused("householdTax " + wrong, INDEX, () -> bench.householdTax(wrong));
        }
        checks.refused("jointTax 2", ELEMENT, () -> bench.jointTax(2));
        checks.refused("separateTax 2", ELEMENT, () -> bench.separateTax(2));
        checks.refused("division 2", ELEMENT, () -> bench.division(2));
        checks.refused("choosesJoint 2", ELEMENT, () -> bench.choosesJoint(2));
        checks.same("householdTax 2", bench.householdTax(2), 0);
    }
}
