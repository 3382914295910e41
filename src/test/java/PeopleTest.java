import java.util.NoSuchElementException;

/** Promises 15 to 19: people and couples. */
public final class PeopleTest {
    private static final Class<IndexOutOfBoundsException> INDEX = IndexOutOfBoundsException.class;
    private static final Class<IllegalArgumentException> ARGUMENT = IllegalArgumentException.class;
    private static final Class<IllegalStateException> STATE = IllegalStateException.class;
    private static final Class<NoSuchElementException> ELEMENT = NoSuchElementException.class;
    private static final Checks checks = new Checks("PeopleTest");

    public static void main(String[] args) {
        promise15();
        promise16();
        promise17();
        promise18();
        promise19();
        checks.end();
    }

    private static void promise15() {
        TaxWorkbench bench = new TaxWorkbench();
        bench.setPerson(5, 9999, 9998, 9);
        checks.same("earned", bench.personData(5, 0), 9999);
        checks.same("other", bench.personData(5, 1), 9998);
        checks.same("dependents", bench.personData(5, 2), 9);
        checks.same("others stay", bench.personData(4, 0), 0);
        refusedPerson(bench, INDEX, 6, 0, 0, 0);
        refusedPerson(bench, INDEX, -1, 0, 0, 0);
        refusedPerson(bench, INDEX, 6, -1, 0, 0);
        refusedPerson(bench, ARGUMENT, 5, 10000, 0, 0);
        refusedPerson(bench, ARGUMENT, 5, -1, 0, 0);
        refusedPerson(bench, ARGUMENT, 5, 0, 10000, 0);
        refusedPerson(bench, ARGUMENT, 5, 0, -1, 0);
        refusedPerson(bench, ARGUMENT, 5, 0, 0, 10);
        refusedPerson(bench, ARGUMENT, 5, 0, 0, -1);
        checks.same("still earned", bench.personData(5, 0), 9999);
        bench.setPerson(5, 0, 0, 0);
        checks.same("set to 0", bench.personData(5, 0), 0);
        checks.same("two changes", bench.undo(), 1);
        checks.same("taken back", bench.personData(5, 2), 9);
    }

    private static void refusedPerson(TaxWorkbench bench, Class<? extends RuntimeException> due,
            int person, int earned, int other, int dependents) {
        checks.refusedDeed("setPerson " + person + " " + earned + " " + other + " " + dependents, due,
                () -> bench.setPerson(person, earned, other, dependents));
    }

    private static void promise16() {
        TaxWorkbench bench = new TaxWorkbench();
        for (int i = 0; i < 6; i++) {
            bench.setPerson(i, 100 + i, 200 + i, i);
        }
        for (int i = 0; i < 6; i++) {
            checks.same("earned of " + i, bench.personData(i, 0), 100 + i);
            checks.same("other of " + i, bench.personData(i, 1), 200 + i);
            checks.same("dependents of " + i, bench.personData(i, 2), i);
        }
        checks.refused("person 6", INDEX, () -> bench.personData(6, 0));
        checks.refused("person -1", INDEX, () -> bench.personData(-1, 3));
        checks.refused("part 3", ARGUMENT, () -> bench.personData(0, 3));
        checks.refused("part -1", ARGUMENT, () -> bench.personData(0, -1));
    }

    private static void promise17() {
        TaxWorkbench bench = new TaxWorkbench();
        bench.marry(4, 1);
        checks.same("partner of 4", bench.partner(4), 1);
        checks.same("partner of 1", bench.partner(1), 4);
        refusedCouple(bench, INDEX, 6, 0);
        refusedCouple(bench, INDEX, 0, 6);
        refusedCouple(bench, INDEX, -1, -1);
        refusedCouple(bench, INDEX, 4, -1);
        refusedCouple(bench, ARGUMENT, 0, 0);
        refusedCouple(bench, ARGUMENT, 4, 4);
        refusedCouple(bench, STATE, 4, 0);
        refusedCouple(bench, STATE, 0, 4);
        refusedCouple(bench, STATE, 1, 4);
        bench.marry(0, 5);
        bench.marry(2, 3);
        checks.same("a third couple", bench.partner(3), 2);
        checks.same("three changes", bench.undo(), 2);
        checks.refused("taken back", ELEMENT, () -> bench.partner(3));
    }

    private static void refusedCouple(TaxWorkbench bench, Class<? extends RuntimeException> due,
            int one, int other) {
        checks.refusedDeed("marry " + one + " " + other, due, () -> bench.marry(one, other));
    }

    private static void promise18() {
        TaxWorkbench bench = new TaxWorkbench();
        bench.marry(0, 3);
        bench.marry(1, 2);
        checks.refused("part 6", INDEX, () -> bench.part(6));
        checks.refused("part -1", INDEX, () -> bench.part(-1));
        checks.refused("part 5", ELEMENT, () -> bench.part(5));
        checks.same("part 3", bench.part(3), 0);
        checks.refused("part 0", ELEMENT, () -> bench.part(0));
        checks.same("the others stay", bench.partner(2), 1);
        bench.marry(3, 5);
        checks.same("married again", bench.part(3), 5);
        checks.same("parting is a change", bench.undo(), 4);
        checks.same("taken back", bench.partner(5), 3);
    }

    private static void promise19() {
        TaxWorkbench bench = new TaxWorkbench();
        bench.marry(5, 0);
        checks.same("partner of 0", bench.partner(0), 5);
        checks.same("partner of 5", bench.partner(5), 0);
        checks.refused("partner of 1", ELEMENT, () -> bench.partner(1));
        checks.refused("partner of 6", INDEX, () -> bench.partner(6));
        checks.refused("partner of -1", INDEX, () -> bench.partner(-1));
    }
}
