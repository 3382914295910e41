import java.util.LinkedHashMap;
import java.util.Map;

/** Promises 40 to 42, the paragraph Changes, and what is said ahead of the paragraphs of all calls. */
final class ChangeEdges {
    private static final Class<IllegalStateException> STATE = IllegalStateException.class;
    private static final Class<IllegalArgumentException> ARGUMENT = IllegalArgumentException.class;
    private static final Class<IndexOutOfBoundsException> INDEX = IndexOutOfBoundsException.class;
    private static final int MOST_CALLS = 512;

    private final Sentences s;

    ChangeEdges(Sentences sentences) {
        s = sentences;
    }

    void all() {
        manyCalls();
        refusals();
        changes();
        undoing();
        saving();
        restoring();
    }

    private void manyCalls() {
        s.in("What it is");
        s.test("An object is used for at most 512 calls after it has been made", () -> {
            TaxWorkbench bench = new TaxWorkbench();
            for (int i = 1; i <= MOST_CALLS - 8; i++) {
                bench.setPerson(i % 6, i, 0, 0);
            }
            for (int i = 5; i >= 0; i--) {
                s.same("undo", bench.undo(), i);
            }
            s.same("call 511", Checks.outcome(bench::undo), STATE.getName());
            s.same("call 512", bench.personData((MOST_CALLS - 14) % 6, 0), MOST_CALLS - 14);
            TaxWorkbench years = Checks.with("k9999,0,0,0*");
            years.setPerson(5, 0, 0, 9);
            for (int i = 1; i < MOST_CALLS - 14; i++) {
                years.closeYear();
            }
            s.same("the greatest carried amount", years.carried(5, 0), (MOST_CALLS - 15) * 89991000000L);
        });
    }

    private void refusals() {
        s.in("Description");
        s.test("A call that throws an exception leaves the state unchanged", () -> {
            for (Map.Entry<String, State.Use> call : refused().entrySet()) {
                Object outcome = State.outcome(Benches.written(), call.getValue());
                s.same(call.getKey() + " is refused", outcome.equals(State.ANSWERED), false);
                s.same(call.getKey(), State.after(Benches::written, call.getValue()),
                        State.after(Benches::written, bench -> { }));
            }
            s.same("all of them, one after another", State.after(Benches::written, ChangeEdges::refuseAll),
                    State.after(Benches::written, bench -> { }));
        });
        s.test("except that the text and its fault position are treated as described", () -> {
            s.faulty("m1,2;c1", 7);
            s.notAllowed("m1,2;m1,1000");
            s.faulty("", 0);
        });
        s.test("they are checked in the order in which they are listed", this::order);
    }

    /** A refused call of each method that can refuse one, but for addRules, restore and undo. */
    private static Map<String, State.Use> refused() {
        Map<String, State.Use> calls = new LinkedHashMap<>();
        calls.put("appendCharacter of no character", bench -> bench.appendCharacter(127));
        calls.put("appendCharacter to a full text", bench -> bench.appendCharacter('0'));
        calls.put("bracket", bench -> bench.bracket(2, 0));
        calls.put("allowance", bench -> bench.allowance(5));
        calls.put("charge", bench -> bench.charge(1, 0));
        calls.put("credit", bench -> bench.credit(3, 0));
        calls.put("removeCredit", bench -> bench.removeCredit(3));
        calls.put("moveCredit", bench -> bench.moveCredit(0, 3));
        calls.put("setPerson", bench -> bench.setPerson(0, 1, 2, 10));
        calls.put("personData", bench -> bench.personData(0, 3));
        calls.put("marry", bench -> bench.marry(2, 0));
        calls.put("part", bench -> bench.part(2));
        calls.put("partner", bench -> bench.partner(2));
        calls.put("tax", bench -> bench.tax(6));
        calls.put("taxPart", bench -> bench.taxPart(0, 6));
        calls.put("creditPart", bench -> bench.creditPart(0, 0, 5));
        calls.put("carried", bench -> bench.carried(0, 3));
        calls.put("jointTax", bench -> bench.jointTax(2));
        calls.put("separateTax", bench -> bench.separateTax(2));
        calls.put("division", bench -> bench.division(2));
        calls.put("choosesJoint", bench -> bench.choosesJoint(2));
        calls.put("householdTax", bench -> bench.householdTax(6));
        calls.put("curve", bench -> bench.curve(0, 10000));
        calls.put("marginalRate", bench -> bench.marginalRate(0, 9999));
        calls.put("kinks", bench -> bench.kinks(6));
        calls.put("nextKink", bench -> bench.nextKink(0, 9998));
        calls.put("kinkCause", bench -> bench.kinkCause(0, 0));
        calls.put("steepest", bench -> bench.steepest(6));
        calls.put("averageRate", bench -> bench.averageRate(2));
        return calls;
    }

    private static void refuseAll(TaxWorkbench bench) {
        for (State.Use call : refused().values()) {
            State.outcome(bench, call);
        }
    }

    private void order() {
        s.refuses("no character, a full text", ARGUMENT, Benches::written, bench -> bench.appendCharacter(127));
        s.refusesText("m1,1000;", ARGUMENT, 8);
        s.refuses("no bracket, no part", INDEX, bench -> bench.bracket(2, 2));
        s.refuses("no charge, no part", INDEX, bench -> bench.charge(-1, -1));
        s.refuses("no credit, no part", INDEX, bench -> bench.credit(3, 6));
        s.refuses("no person, no income", INDEX, bench -> bench.setPerson(6, -1, 10000, 10));
        s.refuses("no person, no part", INDEX, bench -> bench.personData(-1, 3));
        s.refuses("no people, the same", INDEX, bench -> bench.marry(6, 6));
        s.refuses("no person, one in a couple", INDEX, bench -> bench.marry(0, 6));
        s.refuses("the same, in a couple", ARGUMENT, bench -> bench.marry(0, 0));
        s.refuses("no person, no tax part", INDEX, bench -> bench.taxPart(6, 6));
        s.refuses("no person, no credit, no part", INDEX, bench -> bench.creditPart(6, 3, 5));
        s.refuses("no person, no credit part", INDEX, bench -> bench.creditPart(6, 0, 5));
        s.refuses("no credit, no credit part", INDEX, bench -> bench.creditPart(0, 3, 5));
        s.refuses("no person, no place of the curve", INDEX, bench -> bench.curve(6, -1));
        s.refuses("no person, no marginal rate", INDEX, bench -> bench.marginalRate(6, 9999));
        s.refuses("no person, no next kink", INDEX, bench -> bench.nextKink(6, 9999));
        s.refuses("no person, no kink", INDEX, bench -> bench.kinkCause(-1, 0));
        s.refuses("no person, no income of one", INDEX, TaxWorkbench::new, bench -> bench.averageRate(6));
        s.refuses("no person in a couple", INDEX, TaxWorkbench::new, bench -> bench.part(6));
        s.refuses("no person, no partner", INDEX, TaxWorkbench::new, bench -> bench.partner(6));
        s.refuses("no person, no joint tax", INDEX, TaxWorkbench::new, bench -> bench.jointTax(6));
        s.refuses("no person, no separate tax", INDEX, TaxWorkbench::new, bench -> bench.separateTax(6));
        s.refuses("no person, no division", INDEX, TaxWorkbench::new, bench -> bench.division(6));
        s.refuses("no person, no choice", INDEX, TaxWorkbench::new, bench -> bench.choosesJoint(6));
    }

    /** Two changes, after which each of the other ones can be made. */
    private static TaxWorkbench ready() {
        TaxWorkbench bench = Checks.with("k5,0,0,0;k6,0,0,0;c1,20");
        bench.marry(0, 1);
        return bench;
    }

    private static int changesOf(TaxWorkbench bench) {
        int count = 0;
        while (Checks.outcome(bench::undo) instanceof Integer) {
            count++;
        }
        return count;
    }

    private void changes() {
        s.in("Changes");
        s.test("The changes are the successful calls of addRules, removeCredit, moveCredit, clearRules,", () -> {
            change("addRules", bench -> Checks.rules(bench, "b0:5,6:7;a1,2,3;m4,5;c6,7;n8,9,10,11"));
            change("removeCredit", bench -> bench.removeCredit(0));
            change("moveCredit", bench -> bench.moveCredit(0, 1));
            change("clearRules", bench -> bench.clearRules());
            for (int i = 0; i < 6; i++) {
                int person = i;
                change("setPerson of " + i, bench -> bench.setPerson(person, 4, 5, 6));
            }
            change("marry", bench -> bench.marry(4, 5));
            change("part", bench -> bench.part(1));
            change("closeYear", bench -> bench.closeYear());
        });
        s.test("part, closeYear and restore.", () -> {
            TaxWorkbench bench = ready();
            bench.save();
            bench.setPerson(0, 1, 2, 3);
            String before = State.nowOf(bench);
            bench.restore();
            s.same("restore changes", State.nowOf(bench).equals(before), false);
            s.same("restore is one more", bench.undo(), 3);
            s.same("restore is taken back", State.nowOf(bench), before);
            s.same("no other call is one", changesOf(questioned()), 2);
            s.same("a refused call is none", changesOf(refusing()), 2);
        });
        s.test("At most 6 of them can be taken back by undo; older ones are forgotten.", () -> {
            for (int made = 0; made <= 20; made++) {
                TaxWorkbench bench = new TaxWorkbench();
                for (int i = 1; i <= made; i++) {
                    bench.setPerson(0, i, 0, 0);
                }
                s.same("of " + made, changesOf(bench), Math.min(made, 6));
                s.same("left of " + made, bench.personData(0, 0), Math.max(0, made - 6));
            }
        });
        s.in("Details");
        s.test("The calls that are changes are so even if nothing is different afterwards.", () -> {
            same("addRules", bench -> Checks.rules(bench, "b0:0"));
            same("moveCredit", bench -> bench.moveCredit(1, 1));
            same("setPerson", bench -> bench.setPerson(3, 0, 0, 0));
            same("restore", bench -> {
                bench.save();
                bench.restore();
            });
            TaxWorkbench cleared = new TaxWorkbench();
            cleared.clearRules();
            s.same("clearRules", changesOf(cleared), 1);
        });
    }

    /** It is one more change, and undo takes it back wholly. */
    private void change(String what, State.Use call) {
        TaxWorkbench bench = ready();
        String before = State.nowOf(bench);
        call.on(bench);
        s.same(what + " changes", State.nowOf(bench).equals(before), false);
        s.same(what + " is one more", bench.undo(), 2);
        s.same(what + " is taken back", State.nowOf(bench), before);
    }

    private void same(String what, State.Use call) {
        TaxWorkbench bench = ready();
        call.on(bench);
        s.same(what + " leaves the same", State.nowOf(bench), State.nowOf(ready()));
        s.same(what + " is one more", changesOf(bench), 3);
    }

    private static TaxWorkbench questioned() {
        TaxWorkbench bench = ready();
        bench.appendCharacter('m');
        bench.save();
        State.nowOf(bench);
        bench.faultPosition();
        bench.chargeCount();
        bench.taxPart(0, 5);
        bench.creditPart(0, 0, 0);
        bench.jointTax(0);
        bench.separateTax(0);
        bench.division(0);
        bench.choosesJoint(0);
        bench.curve(0, 5);
        bench.marginalRate(0, 5);
        bench.kinks(0);
        bench.nextKink(0, 0);
        bench.kinkCause(0, bench.nextKink(0, 0));
        bench.steepest(0);
        Checks.outcome(() -> bench.averageRate(0));
        bench.averageDependents();
        return bench;
    }

    private static TaxWorkbench refusing() {
        TaxWorkbench bench = ready();
        refuseAll(bench);
        Checks.outcome(bench::addRules);
        Checks.outcome(() -> Checks.rules(bench, "m1,1000"));
        State.outcome(bench, TaxWorkbench::restore);
        return bench;
    }

    private void undoing() {
        s.promise(40);
        s.test("Takes back the latest change that was not taken back.", () -> {
            TaxWorkbench bench = new TaxWorkbench();
            for (int i = 1; i <= 4; i++) {
                bench.setPerson(0, i, 0, 0);
            }
            bench.undo();
            s.same("the latest", bench.personData(0, 0), 3);
            bench.undo();
            s.same("the one before", bench.personData(0, 0), 2);
            bench.setPerson(0, 9, 0, 0);
            bench.undo();
            s.same("a new one", bench.personData(0, 0), 2);
            bench.undo();
            s.same("the second one", bench.personData(0, 0), 1);
            bench.undo();
            s.same("all", State.nowOf(bench), State.nowOf(new TaxWorkbench()));
            TaxWorkbench typed = Benches.busy();
            typed.undo();
            s.same("a character is no change", typed.appendCharacter('4'), 6);
            s.same("the begun text", typed.addRules(), 1);
        });
        s.test("Returns the number of changes that can still be taken back.", () -> {
            TaxWorkbench bench = Benches.busy();
            for (int i = 5; i >= 0; i--) {
                s.same("undo", bench.undo(), i);
            }
            bench.clearRules();
            bench.clearRules();
            s.same("of new ones", bench.undo(), 1);
        });
        s.test("Throws `IllegalStateException` if there is none", () -> {
            s.refuses("never one", STATE, TaxWorkbench::new, TaxWorkbench::undo);
            s.same("one", Checks.with("m1,2").undo(), 0);
            s.refuses("all taken back", STATE, ChangeEdges::takenBack, TaxWorkbench::undo);
            s.refuses("saving is none", STATE, ChangeEdges::onlySaved, TaxWorkbench::undo);
        });
    }

    /** The text has begun, something is saved, and of more than six changes six were taken back. */
    private static TaxWorkbench takenBack() {
        TaxWorkbench bench = Benches.busy();
        for (int i = 0; i < 6; i++) {
            bench.undo();
        }
        return bench;
    }

    private static TaxWorkbench onlySaved() {
        TaxWorkbench bench = new TaxWorkbench();
        bench.save();
        return bench;
    }

    private void saving() {
        s.promise(41);
        s.test("Saves the rules, the people, the couples, the carried amounts and the number of years", () -> {
            TaxWorkbench bench = Benches.busy();
            bench.save();
            bench.clearRules();
            for (int i = 0; i < 6; i++) {
                bench.setPerson(i, 1, 1, 1);
            }
            bench.part(5);
            bench.marry(2, 3);
            bench.closeYear();
            bench.restore();
            s.same("all of it", State.nowOf(bench), State.nowOf(Benches.busy()));
            bench.clearRules();
            Checks.type(bench, "4");
            s.same("but not the text", bench.addRules(), 1);
        });
        s.test("in place of what was saved before", () -> {
            TaxWorkbench bench = onlySaved();
            bench.setPerson(0, 1, 0, 0);
            bench.save();
            bench.setPerson(0, 2, 0, 0);
            bench.save();
            bench.undo();
            bench.undo();
            bench.restore();
            s.same("what was saved last", bench.personData(0, 0), 2);
        });
    }

    private void restoring() {
        s.promise(42);
        s.test("Restores what was saved last.", () -> {
            TaxWorkbench bench = onlySaved();
            Checks.rules(bench, Benches.SIX_CREDITS);
            bench.closeYear();
            bench.restore();
            s.same("a new object's state", State.nowOf(bench), State.nowOf(new TaxWorkbench()));
            Checks.rules(bench, "k1,0,0,0;k1,0,0,0;k1,0,0,0");
            s.same("nothing carried by new credits", bench.carried(0, 2), 0);
        });
        s.test("It stays saved.", () -> {
            TaxWorkbench bench = Benches.busy();
            bench.restore();
            String restored = State.nowOf(bench);
            Checks.rules(bench, "4");
            s.same("a begun text goes on", bench.allowance(4), 34);
            bench.closeYear();
            bench.restore();
            s.same("a second time", State.nowOf(bench), restored);
            for (int i = 0; i < 4; i++) {
                bench.undo();
            }
            bench.restore();
            s.same("behind undo", State.nowOf(bench), restored);
        });
        s.test("Throws `IllegalStateException` if nothing was saved", () -> {
            s.refuses("new", STATE, TaxWorkbench::new, TaxWorkbench::restore);
            s.refuses("with changes", STATE, ChangeEdges::ready, TaxWorkbench::restore);
            TaxWorkbench bench = onlySaved();
            bench.restore();
            s.same("saved", bench.undo(), 0);
        });
    }
}
