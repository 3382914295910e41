import java.util.NoSuchElementException;

/** Promises 40 to 42: undo, save and restore. */
public final class ChangesTest {
    private static final Class<IllegalStateException> STATE = IllegalStateException.class;
    private static final Checks checks = new Checks("ChangesTest");

    public static void main(String[] args) {
        undoOfEachChange();
        undoOfTheRest();
        atMostSix();
        newChangesBehindUndo();
        refusedCallsAreNoChanges();
        questionsAreNoChanges();
        saving();
        restoringIsAChange();
        textsAreApart();
        checks.end();
    }

    private static void undoOfEachChange() {
        TaxWorkbench bench = new TaxWorkbench();
        bench.setPerson(1, 10, 20, 3);
        bench.marry(1, 2);
        Checks.rules(bench, "b0:5,9:6;a1,2,3;m4,5;c6,7;k8,0,0,0;k9,0,0,0;k10,0,0,0");
        bench.closeYear();
        bench.moveCredit(2, 0);
        bench.removeCredit(1);
        checks.same("credits", bench.creditCount(), 2);
        checks.same("undo of removeCredit", bench.undo(), 5);
        checks.same("credits again", bench.creditCount(), 3);
        checks.same("the removed one", bench.credit(1, 1), 8);
        checks.same("what it carries", bench.carried(5, 1), 8000000);
        checks.same("undo of moveCredit", bench.undo(), 4);
        checks.same("the moved one", bench.credit(2, 1), 10);
        checks.same("undo of closeYear", bench.undo(), 3);
        checks.same("years", bench.years(), 0);
        checks.same("carried", bench.carried(5, 0), 0);
        checks.same("undo of addRules", bench.undo(), 2);
        checks.same("brackets", bench.bracketCount(), 1);
        checks.same("rate", bench.bracket(0, 1), 0);
        checks.same("allowance", bench.allowance(0), 0);
        checks.same("minimum", bench.allowance(4), 0);
        checks.same("charges", bench.chargeCount(), 0);
        checks.same("credits at first", bench.creditCount(), 0);
        checks.same("undo of marry", bench.undo(), 1);
        checks.refused("partner", NoSuchElementException.class, () -> bench.partner(2));
        checks.same("the person", bench.personData(1, 2), 3);
        checks.same("undo of setPerson", bench.undo(), 0);
        checks.same("earned", bench.personData(1, 0), 0);
        checks.same("dependents", bench.personData(1, 2), 0);
        checks.refused("undo of nothing", STATE, bench::undo);
    }

    private static void undoOfTheRest() {
        TaxWorkbench bench = Checks.with("k8,0,0,0;c1,2");
        bench.closeYear();
        bench.save();
        bench.marry(4, 5);
        bench.part(5);
        bench.clearRules();
        bench.restore();
        checks.same("restored", bench.creditCount(), 1);
        checks.same("undo of restore", bench.undo(), 5);
        checks.same("cleared", bench.creditCount(), 0);
        checks.same("undo of clearRules", bench.undo(), 4);
        checks.same("charge", bench.charge(0, 1), 2);
        checks.same("carried", bench.carried(3, 0), 8000000);
        checks.same("undo of part", bench.undo(), 3);
        checks.same("partner", bench.partner(4), 5);
        checks.same("the other's partner", bench.partner(5), 4);
    }

    private static void atMostSix() {
        TaxWorkbench bench = new TaxWorkbench();
        for (int i = 1; i <= 20; i++) {
            bench.setPerson(0, i, 0, 0);
        }
        for (int i = 5; i >= 0; i--) {
            checks.same("undo to " + i, bench.undo(), i);
            checks.same("earned then", bench.personData(0, 0), 14 + i);
        }
        checks.refused("undo of the seventh", STATE, bench::undo);
        checks.same("earned still", bench.personData(0, 0), 14);
    }

    private static void newChangesBehindUndo() {
        TaxWorkbench bench = new TaxWorkbench();
        for (int i = 1; i <= 9; i++) {
            bench.setPerson(0, i, 0, 0);
        }
        bench.undo();
        bench.undo();
        bench.setPerson(0, 100, 0, 0);
        checks.same("undo of the new one", bench.undo(), 4);
        checks.same("earned", bench.personData(0, 0), 7);
        for (int i = 101; i <= 104; i++) {
            bench.setPerson(0, i, 0, 0);
        }
        int[] due = {103, 102, 101, 7, 6, 5};
        for (int i = 0; i < 6; i++) {
            checks.same("undo " + i, bench.undo(), 5 - i);
            checks.same("earned " + i, bench.personData(0, 0), due[i]);
        }
    }

    private static void refusedCallsAreNoChanges() {
        TaxWorkbench bench = new TaxWorkbench();
        Checks.outcome(() -> bench.removeCredit(0));
        Checks.outcome(bench::addRules);
        Checks.outcome(() -> bench.part(0));
        checks.refusedDeed("move", IndexOutOfBoundsException.class, () -> bench.moveCredit(0, 0));
        checks.refusedDeed("set", IllegalArgumentException.class, () -> bench.setPerson(0, 0, 0, 10));
        checks.refusedDeed("marry", IllegalArgumentException.class, () -> bench.marry(1, 1));
        checks.refusedDeed("restore", STATE, bench::restore);
        Checks.type(bench, "b1:1");
        checks.refused("not allowed", STATE, bench::addRules);
        checks.refused("undo", STATE, bench::undo);
    }

    private static void questionsAreNoChanges() {
        TaxWorkbench bench = Checks.with("k1,0,0,0;b0:5,6:7");
        bench.marry(0, 1);
        bench.save();
        bench.tax(0);
        bench.householdTax(0);
        bench.totalTax();
        bench.kinks(0);
        bench.kinkCause(0, bench.nextKink(0, 0));
        checks.same("only the changes", bench.undo(), 1);
    }

    private static void saving() {
        TaxWorkbench bench = Checks.with("b0:5,9:6;a1,2,3;m4,5;c6,7;k8,0,0,0;n1,2,3,4*");
        bench.setPerson(1, 10, 20, 3);
        bench.marry(1, 2);
        bench.closeYear();
        bench.save();
        bench.clearRules();
        bench.part(1);
        bench.marry(1, 3);
        bench.setPerson(1, 1, 1, 1);
        bench.setPerson(3, 1, 1, 1);
        bench.closeYear();
        bench.restore();
        saved(bench);
        Checks.rules(bench, "k8,0,0,0;b0:9");
        bench.restore();
        saved(bench);
        bench.undo();
        bench.undo();
        saved(bench);
        bench.setPerson(0, 7, 7, 7);
        bench.save();
        bench.setPerson(0, 8, 8, 8);
        bench.restore();
        checks.same("saved last", bench.personData(0, 0), 7);
    }

    private static void saved(TaxWorkbench bench) {
        checks.same("brackets", bench.bracketCount(), 2);
        checks.same("bracket", bench.bracket(1, 0), 9);
        checks.same("rate", bench.bracket(1, 1), 6);
        for (int i = 0; i < 5; i++) {
            checks.same("allowance " + i, bench.allowance(i), i + 1);
        }
        checks.same("charges", bench.chargeCount(), 1);
        checks.same("charge", bench.charge(0, 1), 7);
        checks.same("credits", bench.creditCount(), 2);
        checks.same("credit", bench.credit(1, 5), 1);
        checks.same("earned", bench.personData(1, 0), 10);
        checks.same("other", bench.personData(1, 1), 20);
        checks.same("dependents", bench.personData(1, 2), 3);
        checks.same("another person", bench.personData(3, 0), 0);
        checks.same("partner", bench.partner(1), 2);
        checks.refused("no partner", NoSuchElementException.class, () -> bench.partner(3));
        checks.same("carried", bench.carried(5, 0), 8000000);
        checks.same("years", bench.years(), 1);
    }

    private static void restoringIsAChange() {
        TaxWorkbench bench = new TaxWorkbench();
        checks.refusedDeed("nothing saved", STATE, bench::restore);
        bench.save();
        checks.refused("saving is no change", STATE, bench::undo);
        bench.restore();
        checks.same("even if nothing is different", bench.undo(), 0);
        bench.setPerson(0, 1, 1, 1);
        bench.save();
        bench.undo();
        bench.restore();
        checks.same("undo does not touch what is saved", bench.personData(0, 0), 1);
    }

    private static void textsAreApart() {
        TaxWorkbench bench = new TaxWorkbench();
        bench.setPerson(0, 1, 1, 1);
        bench.save();
        Checks.type(bench, "m1");
        bench.undo();
        bench.restore();
        Checks.type(bench, ",2");
        checks.same("the text stays", bench.addRules(), 1);
        checks.same("its item", bench.allowance(4), 2);
    }
}
