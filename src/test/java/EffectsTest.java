import java.util.LinkedHashMap;
import java.util.Map;
import java.util.regex.Pattern;

/**
 * Each call that is not refused changes what its promise tells, and nothing else: neither the rules,
 * people, couples, carried amounts and years beside it, nor the text and its fault position, nor
 * what is saved, nor what undo takes back.
 */
public final class EffectsTest {
    private static final String TAXES = "person \\d (tax|household)|total";
    private static final String CREDITS = "credit \\d part \\d|person \\d carried \\d";
    private static final State.Use NOTHING = bench -> { };
    private static final Checks checks = new Checks("EffectsTest");

    public static void main(String[] args) {
        for (Map.Entry<String, State.Use> question : questions().entrySet()) {
            changesNothing("busy", Benches::busy, question);
            changesNothing("never saved", Benches::full, question);
        }
        rulesOfTexts();
        changesOfCredits();
        changesOfPeople();
        changesOfYears();
        textsAndWhatIsSaved();
        checks.end();
    }

    private static void changesNothing(String what, Benches.Recipe recipe, Map.Entry<String, State.Use> question) {
        State.Use call = question.getValue();
        checks.same(question.getKey() + ", " + what, State.after(recipe, call), State.after(recipe, NOTHING));
    }

    private static Map<String, State.Use> questions() {
        Map<String, State.Use> calls = new LinkedHashMap<>();
        calls.put("faultPosition", bench -> bench.faultPosition());
        calls.put("bracketCount", bench -> bench.bracketCount());
        calls.put("threshold", bench -> bench.bracket(1, 0));
        calls.put("bracket's rate", bench -> bench.bracket(1, 1));
        calls.put("chargeCount", bench -> bench.chargeCount());
        calls.put("charge", bench -> bench.charge(0, 1));
        calls.put("creditCount", bench -> bench.creditCount());
        calls.put("carried", bench -> bench.carried(1, 2));
        calls.put("totalTax", bench -> bench.totalTax());
        calls.put("years", bench -> bench.years());
        calls.put("averageDependents", bench -> bench.averageDependents());
        for (int i = 0; i < 6; i++) {
            int part = i;
            calls.put("allowance " + i, bench -> bench.allowance(Math.min(part, 4)));
            calls.put("credit part " + i, bench -> bench.credit(2, part));
            calls.put("personData part " + i, bench -> bench.personData(1, part % 3));
            calls.put("taxPart " + i, bench -> bench.taxPart(1, part));
            calls.put("creditPart " + i, bench -> bench.creditPart(1, 2, part % 5));
        }
        for (int i : new int[] {0, 1, 3}) {
            questionsOn(calls, i);
        }
        return calls;
    }

    /** Of the persons 0 and 1, who are a couple in a busy bench, and of 3, who is alone. */
    private static void questionsOn(Map<String, State.Use> calls, int person) {
        calls.put("partner " + person, bench -> bench.partner(person));
        calls.put("tax " + person, bench -> bench.tax(person));
        calls.put("jointTax " + person, bench -> bench.jointTax(person));
        calls.put("separateTax " + person, bench -> bench.separateTax(person));
        calls.put("division " + person, bench -> bench.division(person));
        calls.put("choosesJoint " + person, bench -> bench.choosesJoint(person));
        calls.put("householdTax " + person, bench -> bench.householdTax(person));
        calls.put("curve " + person, bench -> bench.curve(person, 450));
        calls.put("marginalRate " + person, bench -> bench.marginalRate(person, 450));
        calls.put("kinks " + person, bench -> bench.kinks(person));
        calls.put("nextKink " + person, bench -> bench.nextKink(person, 0));
        calls.put("kinkCause " + person, bench -> bench.kinkCause(person, bench.nextKink(person, 0)));
        calls.put("steepest " + person, bench -> bench.steepest(person));
        calls.put("averageRate " + person, bench -> bench.averageRate(person));
    }

    /** What stands now is different there at most. */
    private static void changesOnly(String what, String labels, State.Use change) {
        checks.same(what + " is taken", State.outcome(Benches.used(), change), State.ANSWERED);
        String due = State.nowAfter(Benches::used, NOTHING);
        String got = State.nowAfter(Benches::used, change);
        checks.same(what + " changes something", got.equals(due), false);
        checks.same(what + " leaves all else", without(labels, got), without(labels, due));
    }

    private static String without(String labels, String told) {
        Pattern pattern = Pattern.compile("(?m)^(" + labels + ") .*\n");
        return pattern.matcher(told).replaceAll("");
    }

    private static void rulesOfTexts() {
        changesOnly("a text of brackets", "bracket \\d|" + TAXES, bench -> Checks.rules(bench, "b0:5,9:7,10:1"));
        changesOnly("a text of an allowance", "allowance [012]|" + TAXES, bench -> Checks.rules(bench, "a1,2,3"));
        changesOnly("a text of a minimum", "allowance [34]|" + TAXES, bench -> Checks.rules(bench, "m1,2"));
        changesOnly("a text of a charge", "charge 1|" + TAXES, bench -> Checks.rules(bench, "c1,2"));
        changesOnly("a text of a credit", "credit 3 part \\d|person \\d carried 3|" + TAXES,
                bench -> Checks.rules(bench, "n1,2,3,4*"));
        changesOnly("clearRules", "(bracket|allowance|charge) \\d|" + CREDITS + "|" + TAXES,
                bench -> bench.clearRules());
    }

    private static void changesOfCredits() {
        changesOnly("removeCredit of the first", CREDITS + "|" + TAXES, bench -> bench.removeCredit(0));
        changesOnly("removeCredit of the last", "credit 2 part \\d|person \\d carried 2|" + TAXES,
                bench -> bench.removeCredit(2));
        changesOnly("moveCredit", CREDITS + "|" + TAXES, bench -> bench.moveCredit(0, 2));
        changesOnly("moveCredit of the last two", "credit [12] part \\d|person \\d carried [12]|" + TAXES,
                bench -> bench.moveCredit(2, 1));
    }

    private static void changesOfPeople() {
        changesOnly("setPerson of one alone", "person 3 (part \\d|tax|household)|total",
                bench -> bench.setPerson(3, 400, 50, 6));
        changesOnly("setPerson of one in a couple", "person 1 part \\d|person 1 tax|person [01] household|total",
                bench -> bench.setPerson(1, 400, 50, 6));
        changesOnly("marry", "person [23] (partner|household)|total", bench -> bench.marry(3, 2));
        changesOnly("part", "person [01] (partner|household)|total", bench -> bench.part(1));
    }

    private static void changesOfYears() {
        changesOnly("closeYear", "years|person \\d carried 0|" + TAXES, bench -> bench.closeYear());
    }

    private static Map<String, State.Use> changes() {
        Map<String, State.Use> calls = new LinkedHashMap<>();
        calls.put("clearRules", bench -> bench.clearRules());
        calls.put("removeCredit", bench -> bench.removeCredit(0));
        calls.put("moveCredit", bench -> bench.moveCredit(0, 2));
        calls.put("setPerson", bench -> bench.setPerson(1, 4, 5, 6));
        calls.put("marry", bench -> bench.marry(3, 2));
        calls.put("part", bench -> bench.part(1));
        calls.put("closeYear", bench -> bench.closeYear());
        calls.put("restore", TaxWorkbench::restore);
        return calls;
    }

    private static void textsAndWhatIsSaved() {
        for (Map.Entry<String, State.Use> change : changes().entrySet()) {
            leavesText(change.getKey(), change.getValue());
            leavesSaved(change.getKey(), change.getValue());
            isOneMore(change.getKey(), change.getValue());
        }
        leavesText("undo", bench -> bench.undo());
        leavesSaved("undo", bench -> bench.undo());
        leavesText("save", TaxWorkbench::save);
        checks.same("save leaves what stands", State.nowAfter(Benches::busy, TaxWorkbench::save),
                State.nowAfter(Benches::busy, NOTHING));
        for (int i = 1; i <= State.MOST_CHANGES; i++) {
            checks.same("save leaves what undo takes back", undone(TaxWorkbench::save, i), undone(NOTHING, i));
        }
        State.Use reading = bench -> Checks.rules(bench, "4;k7,0,0,0");
        leavesSaved("addRules", reading);
        isOneMore("addRules", reading);
        State.Use typing = bench -> bench.appendCharacter('5');
        checks.same("appendCharacter leaves all but the text", State.butTextAfter(Benches::busy, typing),
                State.butTextAfter(Benches::busy, NOTHING));
        TaxWorkbench bench = Benches.busy();
        bench.appendCharacter('x');
        checks.same("appendCharacter leaves the fault", bench.faultPosition(), 0);
    }

    private static void leavesText(String what, State.Use call) {
        checks.same(what + " leaves the text", State.textAfter(Benches::busy, call),
                State.textAfter(Benches::busy, NOTHING));
        checks.same(what + " leaves a full text", State.textAfter(Benches::written, call),
                State.textAfter(Benches::written, NOTHING));
    }

    private static void leavesSaved(String what, State.Use call) {
        checks.same(what + " leaves what is saved", State.restoredAfter(Benches::busy, call),
                State.restoredAfter(Benches::busy, NOTHING));
    }

    /** Behind it, undo leads to what stood before, and then on to what it led to before. */
    private static void isOneMore(String what, State.Use change) {
        for (int i = 0; i < State.MOST_CHANGES; i++) {
            checks.same(what + " leaves what undo takes back", undone(change, i + 1), undone(NOTHING, i));
        }
    }

    private static String undone(State.Use call, int times) {
        return State.nowAfter(Benches::busy, bench -> {
            call.on(bench);
            for (int i = 0; i < times; i++) {
                bench.undo();
            }
        });
    }
}
