import java.util.NoSuchElementException;

/**
 * A workbench for income taxes: rules, six people, couples, years and an explorer of marginal
 * rates. Rates are thousandths of whole units, so every tax is a whole number of millionths and
 * nothing is ever rounded.
 */
public final class TaxWorkbench {
    private static final int PEOPLE = 6;
    private static final int MOST_BRACKETS = 6;
    private static final int MOST_CHARGES = 4;
    private static final int MOST_CREDITS = 6;
    private static final int MOST_CHARACTERS = 80;
    private static final int MOST_CHANGES = 6;
    private static final int MOST_INCOME = 9999;
    private static final int MOST_DEPENDENTS = 9;
    private static final int MOST_RATE = 999;

    private static final int LOWEST_CHARACTER = 33;
    private static final int HIGHEST_CHARACTER = 126;

    private static final int BRACKET_PARTS = 2;
    private static final int CHARGE_PARTS = 2;
    private static final int PERSON_PARTS = 3;

    private static final int NOBODY = -1;
    private static final int NO_FAULT = -1;
    private static final int NO_KINK = -1;

    // The numbers of allowance and minimum tax, as allowance(part) counts them.
    private static final int ALLOWANCE_AMOUNT = 0;
    private static final int ALLOWANCE_START = 1;
    private static final int ALLOWANCE_RATE = 2;
    private static final int MINIMUM_EXEMPT = 3;
    private static final int MINIMUM_RATE = 4;
    private static final int SETTINGS = 5;

    // The numbers of a credit, as credit(credit, part) counts them.
    private static final int KIND = 0;
    private static final int AMOUNT = 1;
    private static final int PHASE_IN = 2;
    private static final int START = 3;
    private static final int PHASE_OUT = 4;
    private static final int FOR_EACH = 5;
    private static final int CREDIT_NUMBERS = 6;

    private static final int LIMITED = 0;
    private static final int REFUNDABLE = 1;
    private static final int CARRIED = 2;

    // The amounts of a computation, as taxPart(person, part) counts them.
    private static final int ALLOWANCE_LEFT = 0;
    private static final int TAXABLE = 1;
    private static final int SCHEDULED = 2;
    private static final int MINIMUM = 3;
    private static final int BASE = 4;
    private static final int CHARGED = 5;
    private static final int TAX_PARTS = 6;

    // The amounts of a credit in a computation, as creditPart(person, credit, part) counts them.
    private static final int VALUE = 0;
    private static final int USED = 1;
    private static final int LOST = 2;
    private static final int CARRIED_ON = 3;
    private static final int REST = 4;
    private static final int CREDIT_AMOUNTS = 5;

    // On the curve, the parts SCHEDULED to CHARGED come before the rests behind the credits.
    private static final int PARTS_BEFORE_CREDITS = 4;

    private static final long MILLION = 1000000L;
    private static final long MILLIONTHS_OF_A_THOUSANDTH = 1000L;
    private static final long THOUSAND = 1000L;

    private final RuleText text;
    private final Rules draft;
    private final Ledger ledger;
    private final Ledger saved;
    private boolean hasSaved;
    private final History history;
    private final Assessment assessment;
    private final Couple couple;
    private final Explorer explorer;

    public TaxWorkbench() {
        text = new RuleText();
        draft = new Rules();
        ledger = new Ledger();
        saved = new Ledger();
        history = new History();
        assessment = new Assessment();
        couple = new Couple();
        explorer = new Explorer();
    }

    // ---- Texts and rules ----

    public int appendCharacter(int character) throws IllegalArgumentException, IllegalStateException {
        requireRange(character, LOWEST_CHARACTER, HIGHEST_CHARACTER);
        if (text.length >= MOST_CHARACTERS) {
            throw new IllegalStateException("the text is full");
        }
        text.characters[text.length] = character;
        text.length++;
        return text.length;
    }

    public int addRules() throws IllegalArgumentException, IllegalStateException {
        draft.copyFrom(ledger.rules);
        text.readInto(draft);
        if (text.fault != NO_FAULT) {
            throw new IllegalArgumentException("the text has a fault");
        }
        if (!text.allowed) {
            throw new IllegalStateException("an item is not allowed");
        }
        history.remember(ledger);
        ledger.rules.copyFrom(draft);
        return text.items;
    }

    public int faultPosition() {
        return text.fault;
    }

    public int clearRules() {
        history.remember(ledger);
        int cleared = ledger.rules.charges + ledger.rules.credits;
        ledger.rules.clear();
        return cleared;
    }

    public int bracketCount() {
        return ledger.rules.brackets;
    }

    public int bracket(int index, int part) throws IndexOutOfBoundsException, IllegalArgumentException {
        requireIndex(index, ledger.rules.brackets);
        requireRange(part, 0, BRACKET_PARTS - 1);
        return part == 0 ? ledger.rules.bracketThresholds[index] : ledger.rules.bracketRates[index];
    }

    public int allowance(int part) throws IllegalArgumentException {
        requireRange(part, 0, SETTINGS - 1);
        return ledger.rules.settings[part];
    }

    public int chargeCount() {
        return ledger.rules.charges;
    }

    public int charge(int index, int part) throws IndexOutOfBoundsException, IllegalArgumentException {
        requireIndex(index, ledger.rules.charges);
        requireRange(part, 0, CHARGE_PARTS - 1);
        return part == 0 ? ledger.rules.chargeThresholds[index] : ledger.rules.chargeAmounts[index];
    }

    public int creditCount() {
        return ledger.rules.credits;
    }

    public int credit(int credit, int part) throws IndexOutOfBoundsException, IllegalArgumentException {
        requireIndex(credit, ledger.rules.credits);
        requireRange(part, 0, CREDIT_NUMBERS - 1);
        return ledger.rules.creditRow[credit].numbers[part];
    }

    public int removeCredit(int credit) throws IndexOutOfBoundsException {
        requireIndex(credit, ledger.rules.credits);
        history.remember(ledger);
        ledger.rules.dropCredit(credit);
        return ledger.rules.credits;
    }

    public void moveCredit(int credit, int to) throws IndexOutOfBoundsException {
        requireIndex(credit, ledger.rules.credits);
        requireIndex(to, ledger.rules.credits);
        history.remember(ledger);
        ledger.rules.shiftCredit(credit, to);
    }

    // ---- People and couples ----

    public void setPerson(int person, int earned, int other, int dependents)
            throws IndexOutOfBoundsException, IllegalArgumentException {
        requireIndex(person, PEOPLE);
        requireRange(earned, 0, MOST_INCOME);
        requireRange(other, 0, MOST_INCOME);
        requireRange(dependents, 0, MOST_DEPENDENTS);
        history.remember(ledger);
        ledger.earned[person] = earned;
        ledger.other[person] = other;
        ledger.dependents[person] = dependents;
    }

    public int personData(int person, int part) throws IndexOutOfBoundsException, IllegalArgumentException {
        requireIndex(person, PEOPLE);
        requireRange(part, 0, PERSON_PARTS - 1);
        if (part == 0) {
            return ledger.earned[person];
        }
        return part == 1 ? ledger.other[person] : ledger.dependents[person];
    }

    public void marry(int one, int other)
            throws IndexOutOfBoundsException, IllegalArgumentException, IllegalStateException {
        requireIndex(one, PEOPLE);
        requireIndex(other, PEOPLE);
        if (one == other) {
            throw new IllegalArgumentException("a couple is two people");
        }
        if (ledger.partners[one] != NOBODY || ledger.partners[other] != NOBODY) {
            throw new IllegalStateException("one of them is in a couple");
        }
        history.remember(ledger);
        ledger.partners[one] = other;
        ledger.partners[other] = one;
    }

    public int part(int person) throws IndexOutOfBoundsException, NoSuchElementException {
        int left = requirePartner(person);
        history.remember(ledger);
        ledger.partners[person] = NOBODY;
        ledger.partners[left] = NOBODY;
        return left;
    }

    public int partner(int person) throws IndexOutOfBoundsException, NoSuchElementException {
        return requirePartner(person);
    }

    // ---- Taxes ----

    public long tax(int person) throws IndexOutOfBoundsException {
        requireIndex(person, PEOPLE);
        return assessAlone(person).rest;
    }

    public long taxPart(int person, int part) throws IndexOutOfBoundsException, IllegalArgumentException {
        requireIndex(person, PEOPLE);
        requireRange(part, 0, TAX_PARTS - 1);
        return assessAlone(person).parts[part];
    }

    public long creditPart(int person, int credit, int part)
            throws IndexOutOfBoundsException, IllegalArgumentException {
        requireIndex(person, PEOPLE);
        requireIndex(credit, ledger.rules.credits);
        requireRange(part, 0, CREDIT_AMOUNTS - 1);
        return assessAlone(person).creditAmounts[credit][part];
    }

    public long carried(int person, int credit) throws IndexOutOfBoundsException {
        requireIndex(person, PEOPLE);
        requireIndex(credit, ledger.rules.credits);
        return ledger.rules.creditRow[credit].carriedAmounts[person];
    }

    public long jointTax(int person) throws IndexOutOfBoundsException, NoSuchElementException {
        couple.settle(ledger, person, requirePartner(person));
        return couple.togetherTax;
    }

    public long separateTax(int person) throws IndexOutOfBoundsException, NoSuchElementException {
        couple.settle(ledger, person, requirePartner(person));
        return couple.apartTax;
    }

    public int division(int person) throws IndexOutOfBoundsException, NoSuchElementException {
        couple.settle(ledger, person, requirePartner(person));
        return couple.firstGets;
    }

    public boolean choosesJoint(int person) throws IndexOutOfBoundsException, NoSuchElementException {
        couple.settle(ledger, person, requirePartner(person));
        return couple.prefersTogether();
    }

    public long householdTax(int person) throws IndexOutOfBoundsException {
        requireIndex(person, PEOPLE);
        return chosenTax(person);
    }

    public long totalTax() {
        long sum = 0;
        for (int i = 0; i < PEOPLE; i++) {
            if (!isSecond(i)) {
                sum += chosenTax(i);
            }
        }
        return sum;
    }

    /** No household's tax depends on what another one carries, so each is closed in its turn. */
    public int closeYear() {
        history.remember(ledger);
        for (int i = 0; i < PEOPLE; i++) {
            if (ledger.partners[i] == NOBODY) {
                ledger.rules.carryOn(i, assessAlone(i));
            } else if (!isSecond(i)) {
                couple.settle(ledger, i, ledger.partners[i]);
                couple.carryBoth(ledger);
            }
        }
        ledger.years++;
        return ledger.years;
    }

    public int years() {
        return ledger.years;
    }

    // ---- Explorer ----

    public long curve(int person, int earned) throws IndexOutOfBoundsException, IllegalArgumentException {
        requireIndex(person, PEOPLE);
        requireRange(earned, 0, MOST_INCOME);
        explorer.turnTo(ledger, person);
        return explorer.taxAt(ledger.rules, earned);
    }

    public long marginalRate(int person, int earned)
            throws IndexOutOfBoundsException, IllegalArgumentException {
        requireIndex(person, PEOPLE);
        requireRange(earned, 0, MOST_INCOME - 1);
        explorer.turnTo(ledger, person);
        return explorer.taxAt(ledger.rules, earned + 1) - explorer.taxAt(ledger.rules, earned);
    }

    public int kinks(int person) throws IndexOutOfBoundsException {
        requireIndex(person, PEOPLE);
        explorer.turnTo(ledger, person);
        return explorer.countKinks(ledger.rules);
    }

    public int nextKink(int person, int earned) throws IndexOutOfBoundsException, NoSuchElementException {
        requireIndex(person, PEOPLE);
        explorer.turnTo(ledger, person);
        int place = explorer.kinkAbove(ledger.rules, earned);
        if (place == NO_KINK) {
            throw new NoSuchElementException("there is no kink above");
        }
        return place;
    }

    public int kinkCause(int person, int earned) throws IndexOutOfBoundsException, NoSuchElementException {
        requireIndex(person, PEOPLE);
        explorer.turnTo(ledger, person);
        int cause = explorer.causeAt(ledger.rules, earned);
        if (cause == NO_KINK) {
            throw new NoSuchElementException("there is no kink at this place");
        }
        return cause;
    }

    public int steepest(int person) throws IndexOutOfBoundsException {
        requireIndex(person, PEOPLE);
        explorer.turnTo(ledger, person);
        return explorer.steepestPlace(ledger.rules);
    }

    // ---- Averages ----

    public double averageRate(int person) throws IndexOutOfBoundsException, ArithmeticException {
        requireIndex(person, PEOPLE);
        long income = MILLION * (ledger.earned[person] + ledger.other[person]);
        if (income == 0) {
            throw new ArithmeticException("the income is 0");
        }
        return (double) assessAlone(person).rest / (double) income;
    }

    public float averageDependents() {
        int dependents = 0;
        for (int i = 0; i < PEOPLE; i++) {
            dependents += ledger.dependents[i];
        }
        return (float) dependents / (float) PEOPLE;
    }

    // ---- Changes ----

    public int undo() throws IllegalStateException {
        if (history.size == 0) {
            throw new IllegalStateException("there is no change to take back");
        }
        history.takeBack(ledger);
        return history.size;
    }

    public void save() {
        saved.copyFrom(ledger);
        hasSaved = true;
    }

    public void restore() throws IllegalStateException {
        if (!hasSaved) {
            throw new IllegalStateException("nothing was saved");
        }
        history.remember(ledger);
        ledger.copyFrom(saved);
    }

    private void requireIndex(int index, int count) {
        if (index < 0 || index >= count) {
            throw new IndexOutOfBoundsException("there is no such index");
        }
    }

    private void requireRange(int number, int least, int most) {
        if (number < least || number > most) {
            throw new IllegalArgumentException("a number is out of range");
        }
    }

    private int requirePartner(int person) {
        requireIndex(person, PEOPLE);
        int other = ledger.partners[person];
        if (other == NOBODY) {
            throw new NoSuchElementException("the person is in no couple");
        }
        return other;
    }

    private Assessment assessAlone(int person) {
        assessment.takeAlone(ledger, person, ledger.dependents[person]);
        assessment.compute(ledger.rules);
        return assessment;
    }

    private long chosenTax(int person) {
        if (ledger.partners[person] == NOBODY) {
            return assessAlone(person).rest;
        }
        couple.settle(ledger, person, ledger.partners[person]);
        return couple.prefersTogether() ? couple.togetherTax : couple.apartTax;
    }

    private boolean isSecond(int person) {
        return ledger.partners[person] != NOBODY && ledger.partners[person] < person;
    }

    /** A credit keeps its carried amounts itself, so that they move and go with it. */
    private static final class Credit {
        final int[] numbers;
        final long[] carriedAmounts;

        Credit() {
            numbers = new int[CREDIT_NUMBERS];
            carriedAmounts = new long[PEOPLE];
        }

        void copyFrom(Credit from) {
            System.arraycopy(from.numbers, 0, numbers, 0, CREDIT_NUMBERS);
            System.arraycopy(from.carriedAmounts, 0, carriedAmounts, 0, PEOPLE);
        }
    }

    private static final class Rules {
        int brackets;
        final int[] bracketThresholds;
        final int[] bracketRates;
        final int[] settings;
        int charges;
        final int[] chargeThresholds;
        final int[] chargeAmounts;
        int credits;
        final Credit[] creditRow;

        Rules() {
            brackets = 1;
            bracketThresholds = new int[MOST_BRACKETS];
            bracketRates = new int[MOST_BRACKETS];
            settings = new int[SETTINGS];
            chargeThresholds = new int[MOST_CHARGES];
            chargeAmounts = new int[MOST_CHARGES];
            creditRow = new Credit[MOST_CREDITS];
            for (int i = 0; i < MOST_CREDITS; i++) {
                creditRow[i] = new Credit();
            }
        }

        void copyFrom(Rules from) {
            brackets = from.brackets;
            System.arraycopy(from.bracketThresholds, 0, bracketThresholds, 0, MOST_BRACKETS);
            System.arraycopy(from.bracketRates, 0, bracketRates, 0, MOST_BRACKETS);
            System.arraycopy(from.settings, 0, settings, 0, SETTINGS);
            charges = from.charges;
            System.arraycopy(from.chargeThresholds, 0, chargeThresholds, 0, MOST_CHARGES);
            System.arraycopy(from.chargeAmounts, 0, chargeAmounts, 0, MOST_CHARGES);
            credits = from.credits;
            for (int i = 0; i < MOST_CREDITS; i++) {
                creditRow[i].copyFrom(from.creditRow[i]);
            }
        }

        /** The carried amounts need no clearing: addCredit empties those of the place it takes. */
        void clear() {
            brackets = 1;
            bracketThresholds[0] = 0;
            bracketRates[0] = 0;
            for (int i = 0; i < SETTINGS; i++) {
                settings[i] = 0;
            }
            charges = 0;
            credits = 0;
        }

        /** Needs the numbers of one pair or more; answers whether they are allowed as brackets. */
        boolean setBrackets(int[] numbers, int pairs) {
            if (pairs > MOST_BRACKETS || numbers[0] != 0) {
                return false;
            }
            for (int i = 0; i < pairs; i++) {
                bracketThresholds[i] = numbers[2 * i];
                bracketRates[i] = numbers[2 * i + 1];
                if (bracketRates[i] > MOST_RATE) {
                    return false;
                }
                if (i > 0 && bracketThresholds[i] <= bracketThresholds[i - 1]) {
                    return false;
                }
            }
            brackets = pairs;
            return true;
        }

        boolean setAllowance(int amount, int start, int rate) {
            settings[ALLOWANCE_AMOUNT] = amount;
            settings[ALLOWANCE_START] = start;
            settings[ALLOWANCE_RATE] = rate;
            return rate <= MOST_RATE;
        }

        boolean setMinimum(int exempt, int rate) {
            settings[MINIMUM_EXEMPT] = exempt;
            settings[MINIMUM_RATE] = rate;
            return rate <= MOST_RATE;
        }

        boolean addCharge(int threshold, int amount) {
            if (charges >= MOST_CHARGES) {
                return false;
            }
            chargeThresholds[charges] = threshold;
            chargeAmounts[charges] = amount;
            charges++;
            return true;
        }

        /** Takes amount, phase-in, start and phase-out from the numbers, in this order. */
        boolean addCredit(int kind, int[] numbers, boolean forEach) {
            if (credits >= MOST_CREDITS) {
                return false;
            }
            Credit added = creditRow[credits];
            added.numbers[KIND] = kind;
            added.numbers[AMOUNT] = numbers[0];
            added.numbers[PHASE_IN] = numbers[1];
            added.numbers[START] = numbers[2];
            added.numbers[PHASE_OUT] = numbers[3];
            added.numbers[FOR_EACH] = forEach ? 1 : 0;
            for (int i = 0; i < PEOPLE; i++) {
                added.carriedAmounts[i] = 0;
            }
            credits++;
            return added.numbers[PHASE_IN] <= MOST_RATE && added.numbers[PHASE_OUT] <= MOST_RATE;
        }

        void shiftCredit(int from, int to) {
            Credit shifted = creditRow[from];
            for (int i = from; i < to; i++) {
                creditRow[i] = creditRow[i + 1];
            }
            for (int i = from; i > to; i--) {
                creditRow[i] = creditRow[i - 1];
            }
            creditRow[to] = shifted;
        }

        void dropCredit(int index) {
            shiftCredit(index, credits - 1);
            credits--;
        }

        void carryOn(int person, Assessment assessed) {
            for (int i = 0; i < credits; i++) {
                creditRow[i].carriedAmounts[person] = assessed.creditAmounts[i][CARRIED_ON];
            }
        }

        void carryNothing(int person) {
            for (int i = 0; i < credits; i++) {
                creditRow[i].carriedAmounts[person] = 0;
            }
        }
    }

    /** All that undo takes back and save keeps. */
    private static final class Ledger {
        final Rules rules;
        final int[] earned;
        final int[] other;
        final int[] dependents;
        final int[] partners;
        int years;

        Ledger() {
            rules = new Rules();
            earned = new int[PEOPLE];
            other = new int[PEOPLE];
            dependents = new int[PEOPLE];
            partners = new int[PEOPLE];
            for (int i = 0; i < PEOPLE; i++) {
                partners[i] = NOBODY;
            }
        }

        void copyFrom(Ledger from) {
            rules.copyFrom(from.rules);
            System.arraycopy(from.earned, 0, earned, 0, PEOPLE);
            System.arraycopy(from.other, 0, other, 0, PEOPLE);
            System.arraycopy(from.dependents, 0, dependents, 0, PEOPLE);
            System.arraycopy(from.partners, 0, partners, 0, PEOPLE);
            years = from.years;
        }
    }

    /** The ledgers before the latest changes, in a ring whose oldest place is used again. */
    private static final class History {
        final Ledger[] ring;
        int oldest;
        int size;

        History() {
            ring = new Ledger[MOST_CHANGES];
            for (int i = 0; i < MOST_CHANGES; i++) {
                ring[i] = new Ledger();
            }
        }

        void remember(Ledger ledger) {
            ring[(oldest + size) % MOST_CHANGES].copyFrom(ledger);
            if (size < MOST_CHANGES) {
                size++;
            } else {
                oldest = (oldest + 1) % MOST_CHANGES;
            }
        }

        /** Needs a change that can be taken back. */
        void takeBack(Ledger ledger) {
            size--;
            ledger.copyFrom(ring[(oldest + size) % MOST_CHANGES]);
        }
    }

    /** The text and its reader, whose position at a fault is the fault position. */
    private static final class RuleText {
        static final int END = 0;
        static final int MOST_DIGITS = 4;

        final int[] characters;
        int length;
        int fault;
        int items;
        boolean allowed;
        int position;
        final int[] numbers;
        int numberCount;

        RuleText() {
            characters = new int[MOST_CHARACTERS];
            fault = NO_FAULT;
            // Each number takes a character at least.
            numbers = new int[MOST_CHARACTERS];
        }

        /** Items that are not allowed do not end the reading, as a fault behind them comes first. */
        void readInto(Rules rules) {
            position = 0;
            items = 0;
            allowed = true;
            boolean sound = readItem(rules);
            for (int i = 0; i < MOST_CHARACTERS && sound && position < length; i++) {
                sound = skip(';') && readItem(rules);
            }
            fault = sound ? NO_FAULT : position;
            length = 0;
        }

        boolean readItem(Rules rules) {
            int letter = peek();
            int wanted = numbersWanted(letter);
            if (wanted == 0) {
                return false;
            }
            position++;
            numberCount = 0;
            if (!(letter == 'b' ? readPairs() : readList(wanted))) {
                return false;
            }
            boolean forEach = kindOf(letter) >= 0 && skip('*');
            items++;
            if (!carryOut(rules, letter, forEach)) {
                allowed = false;
            }
            return true;
        }

        int numbersWanted(int letter) {
            switch (letter) {
                case 'b':
                case 'm':
                case 'c':
                    return 2;
                case 'a':
                    return 3;
                case 'n':
                case 'r':
                case 'k':
                    return 4;
                default:
                    return 0;
            }
        }

        int kindOf(int letter) {
            switch (letter) {
                case 'n':
                    return LIMITED;
                case 'r':
                    return REFUNDABLE;
                case 'k':
                    return CARRIED;
                default:
                    return -1;
            }
        }

        boolean carryOut(Rules rules, int letter, boolean forEach) {
            switch (letter) {
                case 'b':
                    return rules.setBrackets(numbers, numberCount / 2);
                case 'a':
                    return rules.setAllowance(numbers[0], numbers[1], numbers[2]);
                case 'm':
                    return rules.setMinimum(numbers[0], numbers[1]);
                case 'c':
                    return rules.addCharge(numbers[0], numbers[1]);
                default:
                    return rules.addCredit(kindOf(letter), numbers, forEach);
            }
        }

        boolean readPairs() {
            boolean sound = readPair();
            for (int i = 0; i < MOST_CHARACTERS && sound && peek() == ','; i++) {
                position++;
                sound = readPair();
            }
            return sound;
        }

        boolean readPair() {
            return readNumber() && skip(':') && readNumber();
        }

        boolean readList(int wanted) {
            boolean sound = readNumber();
            for (int i = 1; i < wanted && sound; i++) {
                sound = skip(',') && readNumber();
            }
            return sound;
        }

        boolean readNumber() {
            int number = 0;
            int digits = 0;
            while (digits < MOST_DIGITS && peek() >= '0' && peek() <= '9') {
                number = 10 * number + peek() - '0';
                position++;
                digits++;
            }
            if (digits == 0 || numberCount >= MOST_CHARACTERS) {
                return false;
            }
            numbers[numberCount] = number;
            numberCount++;
            return true;
        }

        int peek() {
            return position < length ? characters[position] : END;
        }

        boolean skip(int character) {
            if (peek() != character) {
                return false;
            }
            position++;
            return true;
        }
    }

    /** A case and its computation. One object serves all cases, as the room for objects is small. */
    private static final class Assessment {
        int earnedIncome;
        int income;
        int dependents;
        int factor;
        final long[] broughtAmounts;
        final long[] parts;
        final long[][] creditAmounts;
        long rest;

        Assessment() {
            broughtAmounts = new long[MOST_CREDITS];
            parts = new long[TAX_PARTS];
            creditAmounts = new long[MOST_CREDITS][CREDIT_AMOUNTS];
        }

        void takeAlone(Ledger ledger, int person, int theirDependents) {
            earnedIncome = ledger.earned[person];
            income = ledger.earned[person] + ledger.other[person];
            dependents = theirDependents;
            factor = 1;
            for (int i = 0; i < MOST_CREDITS; i++) {
                broughtAmounts[i] = ledger.rules.creditRow[i].carriedAmounts[person];
            }
        }

        void takeTogether(Ledger ledger, int one, int other) {
            takeAlone(ledger, one, ledger.dependents[one] + ledger.dependents[other]);
            earnedIncome += ledger.earned[other];
            income += ledger.earned[other] + ledger.other[other];
            factor = 2;
            for (int i = 0; i < MOST_CREDITS; i++) {
                broughtAmounts[i] += ledger.rules.creditRow[i].carriedAmounts[other];
            }
        }

        void earn(int earned) {
            income += earned - earnedIncome;
            earnedIncome = earned;
        }

        void compute(Rules rules) {
            int[] settings = rules.settings;
            long allowed = factor * settings[ALLOWANCE_AMOUNT] * MILLION
                    - shareAbove(settings[ALLOWANCE_START], settings[ALLOWANCE_RATE]);
            parts[ALLOWANCE_LEFT] = Math.max(0, allowed);
            parts[TAXABLE] = Math.max(0, income * MILLION - parts[ALLOWANCE_LEFT]);
            parts[SCHEDULED] = scheduled(rules, parts[TAXABLE]);
            parts[MINIMUM] = shareAbove(settings[MINIMUM_EXEMPT], settings[MINIMUM_RATE]);
            parts[BASE] = Math.max(parts[SCHEDULED], parts[MINIMUM]);
            parts[CHARGED] = parts[BASE] + chargesDue(rules) * MILLION;
            rest = parts[CHARGED];
            for (int i = 0; i < rules.credits; i++) {
                creditAmounts[i][VALUE] = valueOf(rules.creditRow[i].numbers);
                useCredit(i, rules.creditRow[i].numbers[KIND]);
            }
        }

        long shareAbove(int start, int rate) {
            int above = income - factor * start;
            return above > 0 ? above * rate * MILLIONTHS_OF_A_THOUSANDTH : 0;
        }

        long scheduled(Rules rules, long taxable) {
            long sum = 0;
            for (int i = 0; i < rules.brackets; i++) {
                long top = taxable;
                if (i + 1 < rules.brackets) {
                    top = Math.min(taxable, factor * rules.bracketThresholds[i + 1] * MILLION);
                }
                long part = top - factor * rules.bracketThresholds[i] * MILLION;
                if (part > 0) {
                    sum += part * rules.bracketRates[i] / THOUSAND;
                }
            }
            return sum;
        }

        int chargesDue(Rules rules) {
            int sum = 0;
            for (int i = 0; i < rules.charges; i++) {
                if (income >= factor * rules.chargeThresholds[i]) {
                    sum += rules.chargeAmounts[i];
                }
            }
            return sum;
        }

        void useCredit(int credit, int kind) {
            long usable = creditAmounts[credit][VALUE];
            if (kind == CARRIED) {
                usable += broughtAmounts[credit];
            }
            long used = kind == REFUNDABLE ? usable : Math.min(usable, Math.max(0, rest));
            rest -= used;
            creditAmounts[credit][USED] = used;
            creditAmounts[credit][LOST] = kind == LIMITED ? usable - used : 0;
            creditAmounts[credit][CARRIED_ON] = kind == CARRIED ? usable - used : 0;
            creditAmounts[credit][REST] = rest;
        }

        long valueOf(int[] numbers) {
            long value = numbers[AMOUNT] * MILLION;
            if (numbers[FOR_EACH] == 1) {
                value *= dependents;
            }
            if (numbers[PHASE_IN] != 0) {
                long phasedIn = earnedIncome * numbers[PHASE_IN] * MILLIONTHS_OF_A_THOUSANDTH;
                value = Math.min(value, phasedIn);
            }
            return Math.max(0, value - shareAbove(numbers[START], numbers[PHASE_OUT]));
        }

        /** Counts the parts as the causes of kinks are counted. */
        long curvePart(int part) {
            if (part < PARTS_BEFORE_CREDITS) {
                return parts[SCHEDULED + part];
            }
            return creditAmounts[part - PARTS_BEFORE_CREDITS][REST];
        }
    }

    /** The taxes of a couple both ways; its first one is the one with the lower number. */
    private static final class Couple {
        final Assessment assessment;
        int first;
        int second;
        int allDependents;
        long togetherTax;
        long apartTax;
        int firstGets;

        Couple() {
            assessment = new Assessment();
        }

        void settle(Ledger ledger, int one, int other) {
            first = Math.min(one, other);
            second = Math.max(one, other);
            allDependents = ledger.dependents[first] + ledger.dependents[second];
            assessment.takeTogether(ledger, first, second);
            assessment.compute(ledger.rules);
            togetherTax = assessment.rest;
            firstGets = 0;
            apartTax = dividedTax(ledger, 0);
            for (int i = 1; i <= allDependents; i++) {
                long tax = dividedTax(ledger, i);
                if (tax < apartTax) {
                    apartTax = tax;
                    firstGets = i;
                }
            }
        }

        long dividedTax(Ledger ledger, int dependents) {
            assessment.takeAlone(ledger, first, dependents);
            assessment.compute(ledger.rules);
            long firstTax = assessment.rest;
            assessment.takeAlone(ledger, second, allDependents - dependents);
            assessment.compute(ledger.rules);
            return firstTax + assessment.rest;
        }

        boolean prefersTogether() {
            return togetherTax < apartTax;
        }

        /** Needs the couple to be settled. */
        void carryBoth(Ledger ledger) {
            if (prefersTogether()) {
                assessment.takeTogether(ledger, first, second);
                assessment.compute(ledger.rules);
                ledger.rules.carryOn(first, assessment);
                ledger.rules.carryNothing(second);
                return;
            }
            assessment.takeAlone(ledger, first, firstGets);
            assessment.compute(ledger.rules);
            ledger.rules.carryOn(first, assessment);
            assessment.takeAlone(ledger, second, allDependents - firstGets);
            assessment.compute(ledger.rules);
            ledger.rules.carryOn(second, assessment);
        }
    }

    /** The curve of the person that it is turned to. Kinks stand at 1 to MOST_INCOME - 1. */
    private static final class Explorer {
        final Assessment assessment;

        Explorer() {
            assessment = new Assessment();
        }

        void turnTo(Ledger ledger, int person) {
            assessment.takeAlone(ledger, person, ledger.dependents[person]);
        }

        long taxAt(Rules rules, int earned) {
            assessment.earn(earned);
            assessment.compute(rules);
            return assessment.rest;
        }

        long partAt(Rules rules, int part, int earned) {
            assessment.earn(earned);
            assessment.compute(rules);
            return assessment.curvePart(part);
        }

        int kinkAbove(Rules rules, int earned) {
            int start = Math.max(earned, 0);
            if (start >= MOST_INCOME - 1) {
                return NO_KINK;
            }
            long before = taxAt(rules, start);
            long here = taxAt(rules, start + 1);
            for (int i = start + 1; i < MOST_INCOME; i++) {
                long behind = taxAt(rules, i + 1);
                if (behind - here != here - before) {
                    return i;
                }
                before = here;
                here = behind;
            }
            return NO_KINK;
        }

        int countKinks(Rules rules) {
            int count = 0;
            int place = kinkAbove(rules, 0);
            while (count < MOST_INCOME && place != NO_KINK) {
                count++;
                place = kinkAbove(rules, place);
            }
            return count;
        }

        int causeAt(Rules rules, int earned) {
            int last = PARTS_BEFORE_CREDITS - 1 + rules.credits;
            if (earned < 1 || earned >= MOST_INCOME || !bends(rules, last, earned)) {
                return NO_KINK;
            }
            int cause = 0;
            while (cause < last && !bends(rules, cause, earned)) {
                cause++;
            }
            return cause;
        }

        boolean bends(Rules rules, int part, int earned) {
            long before = partAt(rules, part, earned - 1);
            long here = partAt(rules, part, earned);
            long behind = partAt(rules, part, earned + 1);
            return behind - here != here - before;
        }

        int steepestPlace(Rules rules) {
            long here = taxAt(rules, 1);
            long greatest = here - taxAt(rules, 0);
            int place = 0;
            for (int i = 1; i < MOST_INCOME; i++) {
                long behind = taxAt(rules, i + 1);
                if (behind - here > greatest) {
                    greatest = behind - here;
                    place = i;
                }
                here = behind;
            }
            return place;
        }
    }
}
