/** Promises 5 to 14: clearing, reading, removing and moving rules. */
public final class RulesTest {
    private static final Class<IndexOutOfBoundsException> INDEX = IndexOutOfBoundsException.class;
    private static final Class<IllegalArgumentException> ARGUMENT = IllegalArgumentException.class;
    private static final String ALL =
            "b0:1,5:2,9:3;a10,20,30;m40,50;c1,2;c3,4;n1,2,3,4;r5,6,7,8*;k9,10,11,12";
    private static final Checks checks = new Checks("RulesTest");

    public static void main(String[] args) {
        promise5();
        promises6And7();
        promise8();
        promises9And10();
        promises11And12();
        promise13();
        promise14();
        checks.end();
    }

    private static void promise5() {
        TaxWorkbench bench = Checks.with(
                "b0:1,5:2,9:3;a10,20,30;m40,50;c9999,2;c9998,4;n1,2,3,4;r5,6,7,8*;k9,0,11,12");
        bench.setPerson(0, 1, 2, 3);
        bench.closeYear();
        checks.same("carried before", bench.carried(0, 2), 9000000L);
        checks.same("cleared", bench.clearRules(), 5);
        checks.same("brackets", bench.bracketCount(), 1);
        checks.same("threshold", bench.bracket(0, 0), 0);
        checks.same("rate", bench.bracket(0, 1), 0);
        for (int i = 0; i < 5; i++) {
            checks.same("allowance " + i, bench.allowance(i), 0);
        }
        checks.same("charges", bench.chargeCount(), 0);
        checks.same("credits", bench.creditCount(), 0);
        checks.same("the person stays", bench.personData(0, 2), 3);
        checks.same("the year stays", bench.years(), 1);
        checks.same("cleared again", bench.clearRules(), 0);
        Checks.rules(bench, "k1,0,0,0;k1,0,0,0;k1,0,0,0");
        checks.same("carried of a new credit", bench.carried(0, 2), 0);
        checks.same("undo of the rules", bench.undo(), 5);
        checks.same("undo of an empty clearing", bench.undo(), 4);
        checks.same("still cleared", bench.creditCount(), 0);
        checks.same("undo of the clearing", bench.undo(), 3);
        checks.same("the rules again", bench.creditCount(), 3);
        checks.same("the carried amount again", bench.carried(0, 2), 9000000L);
    }

    private static void promises6And7() {
        TaxWorkbench bench = Checks.with(ALL);
        checks.same("brackets", bench.bracketCount(), 3);
        int[][] due = {{0, 1}, {5, 2}, {9, 3}};
        for (int i = 0; i < 3; i++) {
            checks.same("threshold " + i, bench.bracket(i, 0), due[i][0]);
            checks.same("rate " + i, bench.bracket(i, 1), due[i][1]);
        }
        checks.refused("bracket 3", INDEX, () -> bench.bracket(3, 0));
        checks.refused("bracket -1", INDEX, () -> bench.bracket(-1, 0));
        checks.refused("bracket 3 part 2", INDEX, () -> bench.bracket(3, 2));
        checks.refused("bracket part 2", ARGUMENT, () -> bench.bracket(2, 2));
        checks.refused("bracket part -1", ARGUMENT, () -> bench.bracket(0, -1));
        Checks.rules(bench, "b0:7");
        checks.same("fewer brackets", bench.bracketCount(), 1);
        checks.refused("bracket 1", INDEX, () -> bench.bracket(1, 0));
    }

    private static void promise8() {
        TaxWorkbench bench = Checks.with(ALL);
        for (int i = 0; i < 5; i++) {
            checks.same("allowance " + i, bench.allowance(i), 10 * i + 10);
        }
        checks.refused("allowance 5", ARGUMENT, () -> bench.allowance(5));
        checks.refused("allowance -1", ARGUMENT, () -> bench.allowance(-1));
    }

    private static void promises9And10() {
        TaxWorkbench bench = Checks.with(ALL);
        checks.same("charges", bench.chargeCount(), 2);
        checks.same("threshold 0", bench.charge(0, 0), 1);
        checks.same("amount 0", bench.charge(0, 1), 2);
        checks.same("threshold 1", bench.charge(1, 0), 3);
        checks.same("amount 1", bench.charge(1, 1), 4);
        Checks.rules(bench, "c0,5");
        checks.same("one more", bench.chargeCount(), 3);
        checks.same("it is the last", bench.charge(2, 1), 5);
        checks.refused("charge 3", INDEX, () -> bench.charge(3, 0));
        checks.refused("charge -1", INDEX, () -> bench.charge(-1, 5));
        checks.refused("charge part 2", ARGUMENT, () -> bench.charge(0, 2));
        checks.refused("charge part -1", ARGUMENT, () -> bench.charge(0, -1));
    }

    private static void promises11And12() {
        TaxWorkbench bench = Checks.with(ALL);
        checks.same("credits", bench.creditCount(), 3);
        int[][] due = {{0, 1, 2, 3, 4, 0}, {1, 5, 6, 7, 8, 1}, {2, 9, 10, 11, 12, 0}};
        for (int i = 0; i < 3; i++) {
            for (int j = 0; j < 6; j++) {
                checks.same("credit " + i + " part " + j, bench.credit(i, j), due[i][j]);
            }
        }
        checks.refused("credit 3", INDEX, () -> bench.credit(3, 0));
        checks.refused("credit -1", INDEX, () -> bench.credit(-1, 9));
        checks.refused("credit part 6", ARGUMENT, () -> bench.credit(2, 6));
        checks.refused("credit part -1", ARGUMENT, () -> bench.credit(0, -1));
    }

    /** Four carried credits of 10, 20, 30 and 40, of which all is carried. */
    private static TaxWorkbench carrying() {
        TaxWorkbench bench = Checks.with("k10,0,0,0;k20,0,0,0;k30,0,0,0;k40,0,0,0");
        bench.closeYear();
        return bench;
    }

    private static void order(TaxWorkbench bench, String what, int... amounts) {
        checks.same(what + ": credits", bench.creditCount(), amounts.length);
        for (int i = 0; i < amounts.length; i++) {
            checks.same(what + ": credit " + i, bench.credit(i, 1), amounts[i]);
            for (int j = 0; j < 6; j++) {
                checks.same(what + ": carried of " + j, bench.carried(j, i), amounts[i] * 1000000L);
            }
        }
    }

    private static void promise13() {
        TaxWorkbench bench = carrying();
        checks.refused("remove 4", INDEX, () -> bench.removeCredit(4));
        checks.refused("remove -1", INDEX, () -> bench.removeCredit(-1));
        checks.same("remove 1", bench.removeCredit(1), 3);
        order(bench, "remove 1", 10, 30, 40);
        checks.same("remove the last", bench.removeCredit(2), 2);
        order(bench, "remove the last", 10, 30);
        checks.same("remove the first", bench.removeCredit(0), 1);
        order(bench, "remove the first", 30);
        Checks.rules(bench, "k50,0,0,0");
        checks.same("a new one carries nothing", bench.carried(0, 1), 0);
        bench.removeCredit(0);
        checks.same("remove all", bench.removeCredit(0), 0);
        checks.refused("remove from none", INDEX, () -> bench.removeCredit(0));
        Checks.rules(bench, "k1,0,0,0;k2,0,0,0;k3,0,0,0;k4,0,0,0;k5,0,0,0;k6,0,0,0");
        bench.closeYear();
        checks.same("remove from six", bench.removeCredit(0), 5);
        checks.same("remove from five", bench.removeCredit(4), 4);
        order(bench, "remove from five", 2, 3, 4, 5);
    }

    private static void promise14() {
        TaxWorkbench bench = carrying();
        checks.refusedDeed("move 4", INDEX, () -> bench.moveCredit(4, 0));
        checks.refusedDeed("move -1", INDEX, () -> bench.moveCredit(-1, 0));
        checks.refusedDeed("move to 4", INDEX, () -> bench.moveCredit(0, 4));
        checks.refusedDeed("move to -1", INDEX, () -> bench.moveCredit(0, -1));
        bench.moveCredit(0, 2);
        order(bench, "up", 20, 30, 10, 40);
        bench.moveCredit(3, 0);
        order(bench, "down", 40, 20, 30, 10);
        bench.moveCredit(1, 2);
        order(bench, "next", 40, 30, 20, 10);
        bench.moveCredit(1, 1);
        order(bench, "nowhere", 40, 30, 20, 10);
        checks.same("moves are changes", bench.undo(), 5);
        order(bench, "undo of nowhere", 40, 30, 20, 10);
        bench.undo();
        order(bench, "undo of next", 40, 20, 30, 10);
    }
}
