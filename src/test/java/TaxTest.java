/** Promises 20 to 23: the computation for a person alone, and carried amounts. */
public final class TaxTest {
    private static final Class<IndexOutOfBoundsException> INDEX = IndexOutOfBoundsException.class;
    private static final Class<IllegalArgumentException> ARGUMENT = IllegalArgumentException.class;
    private static final Checks checks = new Checks("TaxTest");

    public static void main(String[] args) {
        wholeComputation();
        brackets();
        allowances();
        minimums();
        charges();
        creditValues();
        creditUse();
        carrying();
        refusals();
        checks.end();
    }

    private static void parts(TaxWorkbench bench, String what, long... due) {
        for (int i = 0; i < due.length; i++) {
            checks.same(what + ": part " + i, bench.taxPart(0, i), due[i]);
        }
    }

    private static void amounts(TaxWorkbench bench, String what, int credit, long... due) {
        for (int i = 0; i < due.length; i++) {
            checks.same(what + ": credit " + credit + " part " + i, bench.creditPart(0, credit, i), due[i]);
        }
    }

    private static TaxWorkbench with(String rules, int earned, int other, int dependents) {
        TaxWorkbench bench = Checks.with(rules);
        bench.setPerson(0, earned, other, dependents);
        return bench;
    }

    private static void wholeComputation() {
        TaxWorkbench bench = with("b0:100,500:200;a100,300,500;m50,150;c400,7;n20,100,300,50"
                + ";r10,0,0,0*;k30,0,0,0", 400, 100, 2);
        parts(bench, "whole", 0, 500000000, 50000000, 67500000, 67500000, 74500000);
        amounts(bench, "whole", 0, 10000000, 10000000, 0, 0, 64500000);
        amounts(bench, "whole", 1, 20000000, 20000000, 0, 0, 44500000);
        amounts(bench, "whole", 2, 30000000, 30000000, 0, 0, 14500000);
        checks.same("whole: tax", bench.tax(0), 14500000);
        bench.marry(0, 1);
        checks.same("whole: tax in a couple", bench.tax(0), 14500000);
        checks.same("tax of another one", bench.tax(5), 0);
    }

    private static void brackets() {
        TaxWorkbench bench = with("b0:100,100:200,300:333", 600, 400, 0);
        checks.same("three brackets", bench.tax(0), 283100000);
        bench.setPerson(0, 100, 0, 0);
        checks.same("the first one full", bench.tax(0), 10000000);
        bench.setPerson(0, 0, 101, 0);
        checks.same("the second one begun", bench.tax(0), 10200000);
        bench.setPerson(0, 9999, 9999, 9);
        checks.same("the greatest income", bench.tax(0), 10000000 + 40000000 + 333000L * 19698);
        Checks.rules(bench, "b0:1,1:2,2:3,3:4,4:5,5:6");
        bench.setPerson(0, 6, 0, 0);
        checks.same("six brackets", bench.tax(0), 21000);
    }

    private static void allowances() {
        TaxWorkbench bench = with("b0:100;a100,300,500", 50, 0, 0);
        parts(bench, "below the allowance", 100000000, 0, 0);
        bench.setPerson(0, 300, 0, 0);
        parts(bench, "at its start", 100000000, 200000000, 20000000);
        bench.setPerson(0, 300, 1, 0);
        parts(bench, "above its start", 99500000, 201500000, 20150000);
        bench.setPerson(0, 499, 0, 0);
        parts(bench, "almost phased out", 500000, 498500000, 49850000);
        bench.setPerson(0, 500, 0, 0);
        parts(bench, "just phased out", 0, 500000000, 50000000);
        bench.setPerson(0, 501, 0, 0);
        parts(bench, "phased out", 0, 501000000, 50100000);
    }

    private static void minimums() {
        TaxWorkbench bench = with("b0:100;m50,150", 50, 0, 0);
        parts(bench, "exempt", 0, 50000000, 5000000, 0, 5000000);
        bench.setPerson(0, 30, 21, 0);
        parts(bench, "above", 0, 51000000, 5100000, 150000, 5100000);
        bench.setPerson(0, 100, 100, 0);
        parts(bench, "greater", 0, 200000000, 20000000, 22500000, 22500000, 22500000);
    }

    private static void charges() {
        TaxWorkbench bench = with("c100,5;c100,6;c0,7;c101,8", 0, 0, 0);
        checks.same("at 0", bench.tax(0), 7000000);
        bench.setPerson(0, 99, 0, 0);
        checks.same("below", bench.taxPart(0, 5), 7000000);
        bench.setPerson(0, 50, 50, 0);
        checks.same("at the threshold", bench.taxPart(0, 5), 18000000);
        checks.same("the base is without them", bench.taxPart(0, 4), 0);
        bench.setPerson(0, 0, 101, 0);
        checks.same("above all", bench.tax(0), 26000000);
    }

    private static void creditValues() {
        TaxWorkbench bench = with("n100,200,0,0*;n100,0,0,0*;n100,200,50,300;n100,0,50,300", 1000, 60, 3);
        amounts(bench, "for each, phased in", 0, 200000000);
        amounts(bench, "for each", 1, 300000000);
        amounts(bench, "phased out wholly", 2, 0);
        amounts(bench, "phased out wholly too", 3, 0);
        bench.setPerson(0, 100, 60, 0);
        amounts(bench, "for none, phased in", 0, 0);
        amounts(bench, "for none", 1, 0);
        amounts(bench, "partly in, wholly out", 2, 0);
        amounts(bench, "partly out", 3, 67000000);
        bench.setPerson(0, 40, 10, 1);
        amounts(bench, "for one, phased in", 0, 8000000);
        amounts(bench, "at the start", 2, 8000000);
        bench.setPerson(0, 40, 11, 1);
        amounts(bench, "in by the earned, out by all", 2, 7700000);
        bench.setPerson(0, 0, 9999, 9);
        amounts(bench, "nothing earned", 0, 0);
        amounts(bench, "nothing earned", 1, 900000000);
    }

    private static void creditUse() {
        TaxWorkbench bench = with("b0:100;n4,0,0,0;r15,0,0,0;n20,0,0,0;k5,0,0,0;r1,0,0,0", 100, 0, 0);
        amounts(bench, "limited, wholly", 0, 4000000, 4000000, 0, 0, 6000000);
        amounts(bench, "refundable", 1, 15000000, 15000000, 0, 0, -9000000);
        amounts(bench, "limited, behind", 2, 20000000, 0, 20000000, 0, -9000000);
        amounts(bench, "carried, behind", 3, 5000000, 0, 0, 5000000, -9000000);
        amounts(bench, "refundable, behind", 4, 1000000, 1000000, 0, 0, -10000000);
        checks.same("a negative tax", bench.tax(0), -10000000);
        bench.moveCredit(2, 0);
        amounts(bench, "limited, partly", 0, 20000000, 10000000, 10000000, 0, 0);
        amounts(bench, "limited, at 0", 1, 4000000, 0, 4000000, 0, 0);
        bench.moveCredit(3, 0);
        amounts(bench, "carried, first", 0, 5000000, 5000000, 0, 0, 5000000);
        checks.same("the order counts", bench.tax(0), -16000000);
    }

    private static void carrying() {
        TaxWorkbench bench = with("b0:100;k15,0,0,0;n5,0,0,0", 100, 0, 0);
        checks.same("at first", bench.carried(0, 0), 0);
        amounts(bench, "partly", 0, 15000000, 10000000, 0, 5000000, 0);
        checks.same("asking carries nothing", bench.carried(0, 0), 0);
        bench.closeYear();
        checks.same("carried", bench.carried(0, 0), 5000000);
        checks.same("carried of another one", bench.carried(3, 0), 15000000);
        checks.same("carried of a limited one", bench.carried(0, 1), 0);
        bench.setPerson(0, 180, 0, 0);
        amounts(bench, "with the carried one", 0, 15000000, 18000000, 0, 2000000, 0);
        bench.setPerson(0, 220, 0, 0);
        amounts(bench, "all of it", 0, 15000000, 20000000, 0, 0, 2000000);
        amounts(bench, "the limited one behind", 1, 5000000, 2000000, 3000000, 0, 0);
    }

    private static void refusals() {
        TaxWorkbench bench = with("n1,0,0,0", 0, 0, 0);
        for (int wrong : new int[] {-1, 6, Integer.MAX_VALUE, Integer.MIN_VALUE}) {
            checks.refused("tax " + wrong, INDEX, () -> bench.tax(wrong));
            checks.refused("taxPart " + wrong, INDEX, () -> bench.taxPart(wrong, 6));
            checks.refused("creditPart " + wrong, INDEX, () -> bench.creditPart(wrong, 0, 0));
            checks.refused("carried " + wrong, INDEX, () -> bench.carried(wrong, 0));
            checks.refused("creditPart 0 " + wrong, INDEX, () -> bench.creditPart(0, wrong, 5));
            checks.refused("carried 0 " + wrong, INDEX, () -> bench.carried(0, wrong));
        }
        checks.refused("creditPart 0 1", INDEX, () -> bench.creditPart(0, 1, 0));
        checks.refused("carried 0 1", INDEX, () -> bench.carried(0, 1));
        checks.refused("taxPart 0 6", ARGUMENT, () -> bench.taxPart(0, 6));
        checks.refused("taxPart 0 -1", ARGUMENT, () -> bench.taxPart(0, -1));
        checks.refused("creditPart 0 0 5", ARGUMENT, () -> bench.creditPart(0, 0, 5));
        checks.refused("creditPart 0 0 -1", ARGUMENT, () -> bench.creditPart(0, 0, -1));
    }
}
