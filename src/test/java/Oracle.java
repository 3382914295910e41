import java.math.BigDecimal;
import java.util.ArrayDeque;
import java.util.ArrayList;
import java.util.Deque;
import java.util.List;
import java.util.NoSuchElementException;
import java.util.regex.Matcher;
import java.util.regex.Pattern;

/** A second reading of the document, in decimals and lists, to compare the program with. */
final class Oracle {
    private static final String NUMBER = "[0-9]{1,4}";
    private static final String PAIR = NUMBER + ":" + NUMBER;
    private static final String ITEM = "(b" + PAIR + "(," + PAIR + ")*"
            + "|a" + NUMBER + "(," + NUMBER + "){2}"
            + "|[mc]" + NUMBER + "," + NUMBER
            + "|[nrk]" + NUMBER + "(," + NUMBER + "){3}\\*?)";
    private static final Pattern RULES = Pattern.compile(ITEM + "(;" + ITEM + ")*");

    private static final class World implements Cloneable {
        List<int[]> brackets = new ArrayList<>(List.of(new int[] {0, 0}));
        int[] allowance = new int[3];
        int[] minimum = new int[2];
        List<int[]> charges = new ArrayList<>();
        List<int[]> credits = new ArrayList<>();
        /** For each credit, what each person carries. */
        List<BigDecimal[]> carried = new ArrayList<>();
        int[][] people = new int[6][3];
        List<int[]> couples = new ArrayList<>();
        int years = 0;

        World copy() {
            World copy = new World();
            copy.brackets = new ArrayList<>(brackets);
            copy.allowance = allowance.clone();
            copy.minimum = minimum.clone();
            copy.charges = new ArrayList<>(charges);
            copy.credits = new ArrayList<>(credits);
            for (BigDecimal[] row : carried) {
                copy.carried.add(row.clone());
            }
            for (int i = 0; i < 6; i++) {
                copy.people[i] = people[i].clone();
            }
            copy.couples = new ArrayList<>(couples);
            copy.years = years;
            return copy;
        }
    }

    private static final class Result {
        BigDecimal[] parts;
        List<BigDecimal[]> credits = new ArrayList<>();
        BigDecimal tax;
    }

    private StringBuilder text = new StringBuilder();
    private int fault = -1;
    private World world = new World();
    private World saved = null;
    private final Deque<World> past = new ArrayDeque<>();

    // ---- Checks ----

    private static void index(int index, int count) {
        if (index < 0 || index >= count) {
            throw new IndexOutOfBoundsException();
        }
    }

    private static void argument(boolean allowed) {
        if (!allowed) {
            throw new IllegalArgumentException();
        }
    }

    private static void state(boolean allowed) {
        if (!allowed) {
            throw new IllegalStateException();
        }
    }

    private void change() {
        past.addLast(world.copy());
        if (past.size() > 6) {
            past.removeFirst();
        }
    }

    // ---- Texts ----

    int appendCharacter(int character) {
        argument(character >= 33 && character <= 126);
        state(text.length() < 80);
        text.append((char) character);
        return text.length();
    }

    static int faultOf(String text) {
        Matcher whole = RULES.matcher(text);
        if (whole.matches()) {
            return -1;
        }
        for (int i = 1; i <= text.length(); i++) {
            Matcher start = RULES.matcher(text.substring(0, i));
            if (!start.matches() && !start.hitEnd()) {
                return i - 1;
            }
        }
        return text.length();
    }

    int addRules() {
        String told = text.toString();
        text = new StringBuilder();
        fault = faultOf(told);
        argument(fault == -1);
        World next = world.copy();
        boolean allowed = true;
        String[] items = told.split(";");
        for (String item : items) {
            allowed &= take(next, item);
        }
        state(allowed && next.charges.size() <= 4 && next.credits.size() <= 6);
        change();
        world = next;
        return items.length;
    }

    private static boolean take(World next, String item) {
        boolean each = item.endsWith("*");
        String[] words = item.substring(1).replace("*", "").split("[,:]");
        int[] numbers = new int[words.length];
        for (int i = 0; i < words.length; i++) {
            numbers[i] = Integer.parseInt(words[i]);
        }
        switch (item.charAt(0)) {
            case 'b':
                return takeBrackets(next, numbers);
            case 'a':
                next.allowance = numbers;
                return numbers[2] < 1000;
            case 'm':
                next.minimum = numbers;
                return numbers[1] < 1000;
            case 'c':
                next.charges.add(numbers);
                return true;
            default:
                next.credits.add(new int[] {"nrk".indexOf(item.charAt(0)), numbers[0], numbers[1],
                    numbers[2], numbers[3], each ? 1 : 0});
                BigDecimal[] none = new BigDecimal[6];
                java.util.Arrays.fill(none, BigDecimal.ZERO);
                next.carried.add(none);
                return numbers[1] < 1000 && numbers[3] < 1000;
        }
    }

    private static boolean takeBrackets(World next, int[] numbers) {
        next.brackets = new ArrayList<>();
        int last = -1;
        for (int i = 0; i < numbers.length; i += 2) {
            if (numbers[i] <= last || numbers[i + 1] > 999) {
                return false;
            }
            last = numbers[i];
            next.brackets.add(new int[] {numbers[i], numbers[i + 1]});
        }
        return numbers[0] == 0 && next.brackets.size() <= 6;
    }

    int faultPosition() {
        return fault;
    }

    // ---- Rules ----

    int clearRules() {
        change();
        int cleared = world.charges.size() + world.credits.size();
        World empty = new World();
        empty.people = world.people;
        empty.couples = world.couples;
        empty.years = world.years;
        world = empty;
        return cleared;
    }

    int bracketCount() {
        return world.brackets.size();
    }

    int bracket(int index, int part) {
        index(index, world.brackets.size());
        argument(part == 0 || part == 1);
        return world.brackets.get(index)[part];
    }

    int allowance(int part) {
        argument(part >= 0 && part <= 4);
        return part < 3 ? world.allowance[part] : world.minimum[part - 3];
    }

    int chargeCount() {
        return world.charges.size();
    }

    int charge(int index, int part) {
        index(index, world.charges.size());
        argument(part == 0 || part == 1);
        return world.charges.get(index)[part];
    }

    int creditCount() {
        return world.credits.size();
    }

    int credit(int credit, int part) {
        index(credit, world.credits.size());
        argument(part >= 0 && part <= 5);
        return world.credits.get(credit)[part];
    }

    int removeCredit(int credit) {
        index(credit, world.credits.size());
        change();
        world.credits.remove(credit);
        world.carried.remove(credit);
        return world.credits.size();
    }

    void moveCredit(int credit, int to) {
        index(credit, world.credits.size());
        index(to, world.credits.size());
        change();
        world.credits.add(to, world.credits.remove(credit));
        world.carried.add(to, world.carried.remove(credit));
    }

    // ---- People ----

    void setPerson(int person, int earned, int other, int dependents) {
        index(person, 6);
        argument(earned >= 0 && earned <= 9999 && other >= 0 && other <= 9999);
        argument(dependents >= 0 && dependents <= 9);
        change();
        world.people[person] = new int[] {earned, other, dependents};
    }

    int personData(int person, int part) {
        index(person, 6);
        argument(part >= 0 && part <= 2);
        return world.people[person][part];
    }

    /** The couple with the lower number first, or null. */
    private int[] coupleOf(int person) {
        for (int[] couple : world.couples) {
            if (couple[0] == person || couple[1] == person) {
                return couple;
            }
        }
        return null;
    }

    private int[] needCouple(int person) {
        index(person, 6);
        int[] couple = coupleOf(person);
        if (couple == null) {
            throw new NoSuchElementException();
        }
        return couple;
    }

    void marry(int one, int other) {
        index(one, 6);
        index(other, 6);
        argument(one != other);
        state(coupleOf(one) == null && coupleOf(other) == null);
        change();
        world.couples.add(new int[] {Math.min(one, other), Math.max(one, other)});
    }

    int part(int person) {
        int other = partner(person);
        change();
        world.couples.remove(coupleOf(person));
        return other;
    }

    int partner(int person) {
        int[] couple = needCouple(person);
        return couple[0] == person ? couple[1] : couple[0];
    }

    // ---- The computation ----

    private static BigDecimal whole(long number) {
        return BigDecimal.valueOf(number);
    }

    private static BigDecimal rate(int thousandths) {
        return BigDecimal.valueOf(thousandths, 3);
    }

    private static BigDecimal notBelow0(BigDecimal number) {
        return number.signum() < 0 ? BigDecimal.ZERO : number;
    }

    private Result compute(int e, int x, int d, int f, BigDecimal[] carried) {
        Result result = new Result();
        BigDecimal income = whole(x);
        BigDecimal left = notBelow0(whole((long) f * world.allowance[0]).subtract(
                rate(world.allowance[2]).multiply(notBelow0(whole(x - (long) f * world.allowance[1])))));
        BigDecimal taxable = notBelow0(income.subtract(left));
        BigDecimal scheduled = BigDecimal.ZERO;
        for (int i = 0; i < world.brackets.size(); i++) {
            BigDecimal from = whole((long) f * world.brackets.get(i)[0]);
            BigDecimal to = i + 1 == world.brackets.size()
                    ? taxable.max(from) : whole((long) f * world.brackets.get(i + 1)[0]);
            BigDecimal part = notBelow0(taxable.min(to).subtract(from));
            scheduled = scheduled.add(rate(world.brackets.get(i)[1]).multiply(part));
        }
        BigDecimal minimum = rate(world.minimum[1]).multiply(
                notBelow0(whole(x - (long) f * world.minimum[0])));
        BigDecimal base = scheduled.max(minimum);
        BigDecimal rest = base;
        for (int[] charge : world.charges) {
            if (x >= f * charge[0]) {
                rest = rest.add(whole(charge[1]));
            }
        }
        result.parts = new BigDecimal[] {left, taxable, scheduled, minimum, base, rest};
        for (int i = 0; i < world.credits.size(); i++) {
            int[] credit = world.credits.get(i);
            BigDecimal value = whole((long) credit[1] * (credit[5] == 1 ? d : 1));
            if (credit[2] != 0) {
                value = value.min(rate(credit[2]).multiply(whole(e)));
            }
            value = notBelow0(value.subtract(
                    rate(credit[4]).multiply(notBelow0(whole(x - (long) f * credit[3])))));
            BigDecimal usable = credit[0] == 2 ? value.add(carried[i]) : value;
            BigDecimal used = credit[0] == 1 ? usable : usable.min(notBelow0(rest));
            BigDecimal unused = usable.subtract(used);
            rest = rest.subtract(used);
            result.credits.add(new BigDecimal[] {value, used,
                credit[0] == 0 ? unused : BigDecimal.ZERO,
                credit[0] == 2 ? unused : BigDecimal.ZERO, rest});
        }
        result.tax = rest;
        return result;
    }

    private static long millionths(BigDecimal amount) {
        return amount.movePointRight(6).longValueExact();
    }

    private BigDecimal[] carriedOf(int person) {
        BigDecimal[] amounts = new BigDecimal[world.credits.size()];
        for (int i = 0; i < amounts.length; i++) {
            amounts[i] = world.carried.get(i)[person];
        }
        return amounts;
    }

    private Result alone(int person, int earned, int dependents) {
        int[] data = world.people[person];
        return compute(earned, earned + data[1], dependents, 1, carriedOf(person));
    }

    private Result alone(int person) {
        return alone(person, world.people[person][0], world.people[person][2]);
    }

    private Result joint(int[] couple) {
        int[] one = world.people[couple[0]];
        int[] other = world.people[couple[1]];
        BigDecimal[] amounts = carriedOf(couple[0]);
        for (int i = 0; i < amounts.length; i++) {
            amounts[i] = amounts[i].add(world.carried.get(i)[couple[1]]);
        }
        int earned = one[0] + other[0];
        return compute(earned, earned + one[1] + other[1], one[2] + other[2], 2, amounts);
    }

    /** The taxes of both with the division that counts, and the division. */
    private Result[] separate(int[] couple) {
        int all = world.people[couple[0]][2] + world.people[couple[1]][2];
        Result[] best = null;
        for (int i = 0; i <= all; i++) {
            Result[] tried = {alone(couple[0], world.people[couple[0]][0], i),
                alone(couple[1], world.people[couple[1]][0], all - i)};
            if (best == null || sum(tried).compareTo(sum(best)) < 0) {
                best = tried;
                lastDivision = i;
            }
        }
        return best;
    }

    private int lastDivision;

    private static BigDecimal sum(Result[] taxes) {
        return taxes[0].tax.add(taxes[1].tax);
    }

    long tax(int person) {
        index(person, 6);
        return millionths(alone(person).tax);
    }

    long taxPart(int person, int part) {
        index(person, 6);
        argument(part >= 0 && part <= 5);
        return millionths(alone(person).parts[part]);
    }

    long creditPart(int person, int credit, int part) {
        index(person, 6);
        index(credit, world.credits.size());
        argument(part >= 0 && part <= 4);
        return millionths(alone(person).credits.get(credit)[part]);
    }

    long carried(int person, int credit) {
        index(person, 6);
        index(credit, world.credits.size());
        return millionths(world.carried.get(credit)[person]);
    }

    long jointTax(int person) {
        return millionths(joint(needCouple(person)).tax);
    }

    long separateTax(int person) {
        return millionths(sum(separate(needCouple(person))));
    }

    int division(int person) {
        separate(needCouple(person));
        return lastDivision;
    }

    boolean choosesJoint(int person) {
        return jointTax(person) < separateTax(person);
    }

    long householdTax(int person) {
        index(person, 6);
        if (coupleOf(person) == null) {
            return tax(person);
        }
        return choosesJoint(person) ? jointTax(person) : separateTax(person);
    }

    long totalTax() {
        long sum = 0;
        for (int i = 0; i < 6; i++) {
            int[] couple = coupleOf(i);
            sum += couple != null && couple[1] == i ? 0 : householdTax(i);
        }
        return sum;
    }

    int closeYear() {
        change();
        World next = world.copy();
        for (int i = 0; i < 6; i++) {
            int[] couple = coupleOf(i);
            Result result;
            if (couple == null) {
                result = alone(i);
            } else if (choosesJoint(i)) {
                result = couple[0] == i ? joint(couple) : null;
            } else {
                result = separate(couple)[couple[0] == i ? 0 : 1];
            }
            for (int j = 0; j < world.credits.size(); j++) {
                next.carried.get(j)[i] = result == null ? BigDecimal.ZERO : result.credits.get(j)[3];
            }
        }
        next.years++;
        world = next;
        return world.years;
    }

    int years() {
        return world.years;
    }

    // ---- Explorer ----

    long curve(int person, int earned) {
        index(person, 6);
        argument(earned >= 0 && earned <= 9999);
        return millionths(alone(person, earned, world.people[person][2]).tax);
    }

    long marginalRate(int person, int earned) {
        index(person, 6);
        argument(earned >= 0 && earned <= 9998);
        return curve(person, earned + 1) - curve(person, earned);
    }

    /** The whole curve: taxes at 0 to 9999. */
    private long[] curveOf(int person) {
        index(person, 6);
        long[] taxes = new long[10000];
        for (int i = 0; i < 10000; i++) {
            taxes[i] = curve(person, i);
        }
        return taxes;
    }

    private static boolean bent(long[] taxes, int place) {
        return taxes[place + 1] - taxes[place] != taxes[place] - taxes[place - 1];
    }

    int kinks(int person) {
        long[] taxes = curveOf(person);
        int count = 0;
        for (int i = 1; i <= 9998; i++) {
            count += bent(taxes, i) ? 1 : 0;
        }
        return count;
    }

    int nextKink(int person, int earned) {
        long[] taxes = curveOf(person);
        for (int i = 1; i <= 9998; i++) {
            if (i > earned && bent(taxes, i)) {
                return i;
            }
        }
        throw new NoSuchElementException();
    }

    int kinkCause(int person, int earned) {
        index(person, 6);
        if (earned < 1 || earned > 9998
                || marginalRate(person, earned) == marginalRate(person, earned - 1)) {
            throw new NoSuchElementException();
        }
        for (int part = 0; part < 4 + world.credits.size(); part++) {
            long[] three = new long[3];
            for (int i = 0; i < 3; i++) {
                Result result = alone(person, earned - 1 + i, world.people[person][2]);
                three[i] = millionths(part < 4 ? result.parts[part + 2] : result.credits.get(part - 4)[4]);
            }
            if (bent(three, 1)) {
                return part;
            }
        }
        throw new AssertionError("a kink has a cause");
    }

    int steepest(int person) {
        long[] taxes = curveOf(person);
        int place = 0;
        for (int i = 0; i <= 9998; i++) {
            if (taxes[i + 1] - taxes[i] > taxes[place + 1] - taxes[place]) {
                place = i;
            }
        }
        return place;
    }

    double averageRate(int person) {
        index(person, 6);
        int income = world.people[person][0] + world.people[person][1];
        if (income == 0) {
            throw new ArithmeticException();
        }
        return (double) tax(person) / (double) (income * 1000000L);
    }

    float averageDependents() {
        int sum = 0;
        for (int[] person : world.people) {
            sum += person[2];
        }
        return (float) sum / 6.0f;
    }

    // ---- Changes ----

    int undo() {
        state(!past.isEmpty());
        world = past.removeLast();
        return past.size();
    }

    void save() {
        saved = world.copy();
    }

    void restore() {
        state(saved != null);
        change();
        world = saved.copy();
    }
}
