import java.util.Random;

/** Long runs of calls, all their answers compared with the oracle's. The seeds are fixed. */
public final class OracleTest {
    private static final Checks checks = new Checks("OracleTest");
    private static final int RUNS = 300;
    private static final int CALLS = 512;
    private static final int TEXTS = 100;
    /** The oracle's whole curves are slow, so not every look at the explorer asks for them. */
    private static final int CURVES_EVERY = 5;

    private final Random random;
    private final TaxWorkbench bench = new TaxWorkbench();
    private final Oracle oracle = new Oracle();
    private final String run;
    private int calls = 0;

    private OracleTest(int seed) {
        random = new Random(seed);
        run = "run " + seed + " call ";
    }

    public static void main(String[] args) {
        for (int seed = 1; seed <= RUNS; seed++) {
            new OracleTest(seed).play();
            new OracleTest(-seed).faults();
        }
        checks.end();
    }

    private void play() {
        while (calls < CALLS) {
            switch (random.nextInt(14)) {
                case 0:
                case 1:
                case 2:
                    rules();
                    break;
                case 3:
                case 4:
                case 5:
                    people();
                    break;
                case 6:
                    credits();
                    break;
                case 7:
                    compare("closeYear", bench::closeYear, oracle::closeYear);
                    break;
                case 8:
                    memory();
                    break;
                case 9:
                    readRules();
                    break;
                case 10:
                case 11:
                    taxes();
                    break;
                case 12:
                    couples();
                    break;
                default:
                    explorer();
                    break;
            }
        }
    }

    private void compare(String what, Checks.Call got, Checks.Call due) {
        calls++;
        if (calls <= CALLS) {
            checks.same(run + calls + ": " + what, Checks.outcome(got), Checks.outcome(due));
        }
    }

    private void compareDeeds(String what, Checks.Deed got, Checks.Deed due) {
        compare(what, () -> done(got), () -> done(due));
    }

    private static Object done(Checks.Deed deed) {
        deed.happen();
        return "done";
    }

    /** Mostly from least to most, sometimes a little or far outside. */
    private int number(int least, int most) {
        switch (random.nextInt(40)) {
            case 0:
                return least - 1;
            case 1:
                return most + 1;
            case 2:
                return random.nextInt();
            case 3:
                return least;
            case 4:
                return most;
            default:
                return least + random.nextInt(most - least + 1);
        }
    }

    private int person() {
        return number(0, 5);
    }

    private int income() {
        return random.nextInt(3) == 0 ? number(0, 9999) : number(0, 600);
    }

    private String amount() {
        int number = random.nextInt(4) == 0 ? random.nextInt(10000) : random.nextInt(400);
        return random.nextInt(10) == 0 ? String.format("%04d", number) : String.valueOf(number);
    }

    private String rate() {
        if (random.nextInt(60) == 0) {
            return "1000";
        }
        return String.valueOf(random.nextInt(4) == 0 ? 0 : random.nextInt(1000));
    }

    private String phase() {
        return random.nextInt(2) == 0 ? "0" : rate();
    }

    private String item() {
        switch (random.nextInt(8)) {
            case 0:
            case 1:
                return brackets();
            case 2:
                return "a" + amount() + "," + amount() + "," + rate();
            case 3:
                return "m" + amount() + "," + rate();
            case 4:
                return "c" + amount() + "," + amount();
            default:
                return "nrk".charAt(random.nextInt(3)) + amount() + "," + phase() + "," + amount() + "," + phase()
                        + (random.nextInt(2) == 0 ? "*" : "");
        }
    }

    private String brackets() {
        StringBuilder told = new StringBuilder("b0:" + rate());
        int threshold = 0;
        for (int i = random.nextInt(random.nextInt(8) + 1); i > 0; i--) {
            threshold += random.nextInt(30) == 0 ? 0 : 1 + random.nextInt(300);
            told.append(',').append(threshold).append(':').append(rate());
        }
        return told.toString();
    }

    private String spoilt(String told) {
        StringBuilder changed = new StringBuilder(told);
        int place = random.nextInt(told.length());
        String signs = "bamcnrk0123456789,:;*-x";
        char sign = signs.charAt(random.nextInt(signs.length()));
        switch (random.nextInt(4)) {
            case 0:
                return changed.deleteCharAt(place).toString();
            case 1:
                return changed.insert(place, sign).toString();
            case 2:
                changed.setCharAt(place, sign);
                return changed.toString();
            default:
                return told.substring(0, place);
        }
    }

    private String text() {
        StringBuilder told = new StringBuilder(item());
        while (random.nextInt(2) == 0) {
            told.append(';').append(item());
        }
        return told.toString();
    }

    /** Reads each text with an object of its own, as one serves for 512 calls only. */
    private void faults() {
        for (int i = 0; i < TEXTS; i++) {
            String text = spoilt(text());
            if (text.length() <= 80) {
                TaxWorkbench reader = new TaxWorkbench();
                Checks.type(reader, text);
                Checks.outcome(reader::addRules);
                checks.same("fault of " + text, reader.faultPosition(), Oracle.faultOf(text));
            }
        }
    }

    private void rules() {
        String text = random.nextInt(4) == 0 ? spoilt(text()) : text();
        for (int i = 0; i < text.length() && calls < CALLS; i++) {
            char character = text.charAt(i);
            compare("append " + character, () -> bench.appendCharacter(character),
                    () -> oracle.appendCharacter(character));
        }
        if (random.nextInt(20) == 0) {
            int character = number(33, 126);
            compare("append " + character, () -> bench.appendCharacter(character),
                    () -> oracle.appendCharacter(character));
        }
        compare("addRules " + text, bench::addRules, oracle::addRules);
        compare("faultPosition", bench::faultPosition, oracle::faultPosition);
        if (random.nextInt(12) == 0) {
            compare("clearRules", bench::clearRules, oracle::clearRules);
        }
    }

    private void people() {
        int person = person();
        int earned = income();
        int other = random.nextInt(2) == 0 ? 0 : income();
        int dependents = random.nextInt(2) == 0 ? random.nextInt(3) : number(0, 9);
        compareDeeds("setPerson " + person + " " + earned + " " + other + " " + dependents,
                () -> bench.setPerson(person, earned, other, dependents),
                () -> oracle.setPerson(person, earned, other, dependents));
        int one = person();
        int two = person();
        int part = number(0, 2);
        compare("personData", () -> bench.personData(one, part), () -> oracle.personData(one, part));
        compareDeeds("marry " + one + " " + two, () -> bench.marry(one, two), () -> oracle.marry(one, two));
        compare("partner " + two, () -> bench.partner(two), () -> oracle.partner(two));
        if (random.nextInt(3) == 0) {
            compare("part " + one, () -> bench.part(one), () -> oracle.part(one));
        }
        compare("averageDependents", bench::averageDependents, oracle::averageDependents);
    }

    private void credits() {
        int last = Math.max(0, oracle.creditCount() - 1);
        int one = number(0, last);
        int to = number(0, last);
        compareDeeds("moveCredit " + one + " " + to, () -> bench.moveCredit(one, to),
                () -> oracle.moveCredit(one, to));
        if (random.nextInt(3) == 0) {
            compare("removeCredit " + to, () -> bench.removeCredit(to), () -> oracle.removeCredit(to));
        }
        carried();
    }

    private void carried() {
        for (int i = 0; i < oracle.creditCount(); i++) {
            int person = person();
            int credit = i;
            compare("carried " + person + " " + i, () -> bench.carried(person, credit),
                    () -> oracle.carried(person, credit));
        }
    }

    private void memory() {
        switch (random.nextInt(4)) {
            case 0:
                compareDeeds("save", bench::save, oracle::save);
                break;
            case 1:
                compareDeeds("restore", bench::restore, oracle::restore);
                break;
            default:
                for (int i = random.nextInt(8); i >= 0; i--) {
                    compare("undo", bench::undo, oracle::undo);
                }
                break;
        }
        compare("years", bench::years, oracle::years);
    }

    private void readRules() {
        compare("bracketCount", bench::bracketCount, oracle::bracketCount);
        compare("chargeCount", bench::chargeCount, oracle::chargeCount);
        compare("creditCount", bench::creditCount, oracle::creditCount);
        int index = number(0, 2);
        int part = number(0, 5);
        int half = number(0, 1);
        compare("bracket", () -> bench.bracket(index, half), () -> oracle.bracket(index, half));
        compare("allowance", () -> bench.allowance(part), () -> oracle.allowance(part));
        compare("charge", () -> bench.charge(index, half), () -> oracle.charge(index, half));
        compare("credit", () -> bench.credit(index, part), () -> oracle.credit(index, part));
    }

    private void taxes() {
        int person = person();
        compare("tax", () -> bench.tax(person), () -> oracle.tax(person));
        compare("averageRate", () -> bench.averageRate(person), () -> oracle.averageRate(person));
        int part = number(0, 5);
        compare("taxPart", () -> bench.taxPart(person, part), () -> oracle.taxPart(person, part));
        for (int i = 0; i <= oracle.creditCount(); i++) {
            int credit = i;
            int amount = number(0, 4);
            compare("creditPart", () -> bench.creditPart(person, credit, amount),
                    () -> oracle.creditPart(person, credit, amount));
        }
        carried();
    }

    private void couples() {
        int person = person();
        compare("jointTax", () -> bench.jointTax(person), () -> oracle.jointTax(person));
        compare("separateTax", () -> bench.separateTax(person), () -> oracle.separateTax(person));
        compare("division", () -> bench.division(person), () -> oracle.division(person));
        compare("choosesJoint", () -> bench.choosesJoint(person), () -> oracle.choosesJoint(person));
        compare("householdTax", () -> bench.householdTax(person), () -> oracle.householdTax(person));
        compare("totalTax", bench::totalTax, oracle::totalTax);
    }

    private void explorer() {
        int person = person();
        int earned = random.nextInt(2) == 0 ? number(0, 9999) : number(0, 400);
        compare("curve", () -> bench.curve(person, earned), () -> oracle.curve(person, earned));
        compare("marginalRate", () -> bench.marginalRate(person, earned),
                () -> oracle.marginalRate(person, earned));
        compare("kinkCause", () -> bench.kinkCause(person, earned), () -> oracle.kinkCause(person, earned));
        causesOnTheWay(person);
        if (random.nextInt(CURVES_EVERY) == 0) {
            compare("kinks", () -> bench.kinks(person), () -> oracle.kinks(person));
            compare("nextKink", () -> bench.nextKink(person, earned), () -> oracle.nextKink(person, earned));
            compare("steepest", () -> bench.steepest(person), () -> oracle.steepest(person));
        }
    }

    /** Asks for the causes where the program finds kinks. */
    private void causesOnTheWay(int person) {
        int place = 0;
        for (int i = 0; i < 4 && person >= 0 && person < 6 && calls < CALLS; i++) {
            int from = place;
            calls++;
            Object next = Checks.outcome(() -> bench.nextKink(person, from));
            if (!(next instanceof Integer)) {
                return;
            }
            place = (Integer) next;
            int kink = place;
            compare("kinkCause at " + kink, () -> bench.kinkCause(person, kink),
                    () -> oracle.kinkCause(person, kink));
        }
    }
}
