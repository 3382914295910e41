import java.util.NoSuchElementException;

/** Promises 15 to 19, the paragraph People, and what each promise with a person says of it. */
final class PeopleEdges {
    private static final Class<IndexOutOfBoundsException> INDEX = IndexOutOfBoundsException.class;
    private static final Class<IllegalArgumentException> ARGUMENT = IllegalArgumentException.class;
    private static final Class<IllegalStateException> STATE = IllegalStateException.class;
    private static final Class<NoSuchElementException> ELEMENT = NoSuchElementException.class;

    private interface Question {
        Object of(TaxWorkbench bench, int person);
    }

    private final Sentences s;

    PeopleEdges(Sentences sentences) {
        s = sentences;
    }

    void all() {
        people();
        setting();
        data();
        marrying();
        parting();
        partners();
        persons();
        personsInCouples();
    }

    private void people() {
        s.in("People");
        s.test("There are six people, numbered from 0.", () -> {
            TaxWorkbench bench = new TaxWorkbench();
            for (int i = 0; i < 6; i++) {
                bench.setPerson(i, 10 + i, 0, 0);
            }
            for (int i = 0; i < 6; i++) {
                s.same("person " + i, bench.personData(i, 0), 10 + i);
            }
            s.refusesOutside(0, 5, INDEX, (used, person) -> used.setPerson(person, 1, 1, 1));
        });
        s.test("A person has an earned and another income, each from 0 to 9999", () -> {
            numbers(9999, 0, 0);
            numbers(0, 9999, 0);
            numbers(0, 0, 0);
            s.refusesOutside(0, 9999, ARGUMENT, (bench, income) -> bench.setPerson(3, income, 0, 0));
            s.refusesOutside(0, 9999, ARGUMENT, (bench, income) -> bench.setPerson(3, 0, income, 0));
        });
        s.test("and a number of dependents from 0 to 9, at first all 0", () -> {
            numbers(0, 0, 9);
            s.refusesOutside(0, 9, ARGUMENT, (bench, number) -> bench.setPerson(3, 0, 0, number));
            for (int i = 0; i < 18; i++) {
                s.same("at first " + i, new TaxWorkbench().personData(i / 3, i % 3), 0);
            }
        });
        s.test("Two people can be a couple; nobody is in two couples.", () -> {
            TaxWorkbench bench = new TaxWorkbench();
            bench.marry(0, 5);
            bench.marry(4, 1);
            bench.marry(2, 3);
            int[] partners = {5, 4, 3, 2, 1, 0};
            for (int i = 0; i < 6; i++) {
                s.same("partner of " + i, bench.partner(i), partners[i]);
            }
            s.refuses("a second couple", STATE, used -> used.marry(0, 2));
        });
        s.test("there is a carried amount, in millionths, at first 0", () -> {
            TaxWorkbench bench = Checks.with("k1,0,0,0;k9999,0,0,0");
            for (int i = 0; i < 12; i++) {
                s.same("at first " + i, bench.carried(i / 2, i % 2), 0);
            }
            bench.setPerson(3, 1, 0, 0);
            Checks.rules(bench, "b0:1");
            bench.closeYear();
            s.same("a millionth", bench.carried(3, 0), 999000);
            s.same("the greatest credit", bench.carried(5, 1), 9999000000L);
        });
    }

    private void numbers(int earned, int other, int dependents) {
        TaxWorkbench bench = Benches.busy();
        bench.setPerson(0, earned, other, dependents);
        int[] due = {earned, other, dependents};
        for (int i = 0; i < 3; i++) {
            s.same(earned + ", " + other + ", " + dependents + ": part " + i, bench.personData(0, i), due[i]);
        }
    }

    private void setting() {
        s.promise(15);
        s.test("`earned`: the earned income, 0 to 9999", () -> {
            numbers(0, 1, 2);
            numbers(9999, 1, 2);
        });
        s.test("`other`: the other income, 0 to 9999", () -> {
            numbers(1, 0, 2);
            numbers(1, 9999, 2);
        });
        s.test("`dependents`: the number of dependents, 0 to 9", () -> {
            numbers(1, 2, 0);
            numbers(1, 2, 9);
        });
        s.test("Throws `IllegalArgumentException` if a number is out of range", () -> {
            s.refusesOutside(0, 9999, ARGUMENT, (bench, number) -> bench.setPerson(0, number, 1, 2));
            s.refusesOutside(0, 9999, ARGUMENT, (bench, number) -> bench.setPerson(5, 1, number, 2));
            s.refusesOutside(0, 9, ARGUMENT, (bench, number) -> bench.setPerson(0, 1, 2, number));
            s.refuses("all", ARGUMENT, bench -> bench.setPerson(0, 10000, -1, 10));
            numbers(9999, 9999, 9);
        });
    }

    private void data() {
        s.promise(16);
        s.test("`part`: 0 for the earned income, 1 for the other income, 2 for the dependents", () -> {
            TaxWorkbench bench = new TaxWorkbench();
            bench.setPerson(5, 7, 8, 9);
            for (int i = 0; i < 3; i++) {
                s.same("part " + i, bench.personData(5, i), 7 + i);
            }
        });
        s.test("Throws `IllegalArgumentException` if the part is out of range",
                () -> s.refusesOutside(0, 2, ARGUMENT, (bench, part) -> bench.personData(5, part)));
    }

    private void marrying() {
        s.promise(17);
        s.test("`one`: a person", () -> {
            s.same("the first", married(0, 3).partner(0), 3);
            s.same("the last", married(5, 3).partner(3), 5);
        });
        s.test("`other`: another person", () -> {
            s.same("the first", married(3, 0).partner(3), 0);
            s.same("the last", married(3, 5).partner(5), 3);
        });
        s.test("Throws `IndexOutOfBoundsException` if one of them does not exist", () -> {
            s.refusesOutside(0, 5, INDEX, (bench, one) -> bench.marry(one, 2));
            s.refusesOutside(0, 5, INDEX, (bench, other) -> bench.marry(2, other));
            s.refusesOutside(0, 5, INDEX, (bench, both) -> bench.marry(both, both));
            s.refuses("another one in a couple", INDEX, bench -> bench.marry(6, 0));
            s.refuses("one in a couple", INDEX, bench -> bench.marry(0, 6));
        });
        s.test("Throws `IllegalArgumentException` if both are the same", () -> {
            s.refuses("alone", ARGUMENT, bench -> bench.marry(2, 2));
            s.refuses("in a couple", ARGUMENT, bench -> bench.marry(0, 0));
            s.refuses("the last", ARGUMENT, TaxWorkbench::new, bench -> bench.marry(5, 5));
            s.same("neighbours", married(2, 3).partner(2), 3);
        });
        s.test("Throws `IllegalStateException` if one of them is in a couple", () -> {
            s.refuses("one of them", STATE, bench -> bench.marry(0, 2));
            s.refuses("the other one", STATE, bench -> bench.marry(2, 0));
            s.refuses("both, in two couples", STATE, bench -> bench.marry(1, 5));
            s.refuses("both, in one couple", STATE, bench -> bench.marry(0, 1));
            s.refuses("both, the other way round", STATE, bench -> bench.marry(1, 0));
            TaxWorkbench bench = Benches.busy();
            bench.marry(2, 3);
            s.same("none of them", bench.partner(3), 2);
            bench.part(1);
            bench.part(5);
            bench.marry(0, 4);
            s.same("parted ones", bench.partner(4), 0);
        });
    }

    private static TaxWorkbench married(int one, int other) {
        TaxWorkbench bench = new TaxWorkbench();
        bench.marry(one, other);
        return bench;
    }

    private void parting() {
        s.promise(18);
        s.test("Ends the couple of a person.", () -> {
            for (int i : new int[] {4, 5}) {
                TaxWorkbench bench = Benches.busy();
                bench.part(i);
                s.same("partner of 4", Checks.outcome(() -> bench.partner(4)), ELEMENT.getName());
                s.same("partner of 5", Checks.outcome(() -> bench.partner(5)), ELEMENT.getName());
                s.same("the other couple", bench.partner(0), 1);
            }
        });
        s.test("Throws `NoSuchElementException` if the person is in no couple", () -> {
            s.same("in a couple", Benches.busy().part(0), 1);
            s.refuses("never in one", ELEMENT, bench -> bench.part(2));
            s.refuses("nobody in one", ELEMENT, TaxWorkbench::new, bench -> bench.part(0));
            s.refuses("no more in one", ELEMENT, PeopleEdges::parted, bench -> bench.part(0));
            s.refuses("the other one neither", ELEMENT, PeopleEdges::parted, bench -> bench.part(1));
        });
    }

    private static TaxWorkbench parted() {
        TaxWorkbench bench = Benches.busy();
        bench.part(0);
        return bench;
    }

    private void partners() {
        s.promise(19);
        s.test("Throws `NoSuchElementException` if the person is in no couple", () -> {
            s.same("in a couple", Benches.busy().partner(1), 0);
            s.refuses("never in one", ELEMENT, bench -> bench.partner(3));
            s.refuses("no more in one", ELEMENT, PeopleEdges::parted, bench -> bench.partner(1));
            TaxWorkbench bench = parted();
            bench.undo();
            s.same("in one again", bench.partner(1), 0);
        });
    }

    /** Couples 0 and 1, 4 and 5, where each one of all questions has other answers for 0 and 5. */
    private static TaxWorkbench asked() {
        TaxWorkbench bench = Checks.with("b0:100,300:200;k5,0,0,0*");
        bench.setPerson(0, 100, 0, 0);
        bench.setPerson(1, 0, 0, 1);
        bench.setPerson(4, 0, 0, 4);
        bench.setPerson(5, 590, 10, 5);
        bench.marry(1, 0);
        bench.marry(4, 5);
        return bench;
    }

    private void persons() {
        person(15, PeopleEdges::setTo77, 77, 77);
        person(16, (bench, person) -> bench.personData(person, 0), 100, 590);
        person(18, TaxWorkbench::part, 1, 4);
        person(19, TaxWorkbench::partner, 1, 4);
        person(20, TaxWorkbench::tax, 10000000L, 65000000L);
        person(21, (bench, person) -> bench.taxPart(person, 1), 100000000L, 600000000L);
        person(22, (bench, person) -> bench.creditPart(person, 0, 1), 0L, 25000000L);
        person(23, PeopleEdges::carriedBehindAYear, 10000000L, 35000000L);
        person(24, TaxWorkbench::jointTax, 5000000L, 15000000L);
        person(25, TaxWorkbench::separateTax, 5000000L, 45000000L);
        person(26, TaxWorkbench::division, 1, 0);
        person(27, TaxWorkbench::choosesJoint, false, true);
        person(28, TaxWorkbench::householdTax, 5000000L, 15000000L);
        person(32, (bench, person) -> bench.curve(person, 100), 10000000L, 0L);
        person(33, (bench, person) -> bench.marginalRate(person, 290), 100000L, 200000L);
        person(34, TaxWorkbench::kinks, 1, 2);
        person(35, (bench, person) -> bench.nextKink(person, 0), 300, 240);
        person(36, (bench, person) -> bench.kinkCause(person, person == 0 ? 300 : 240), 0, 4);
        person(37, TaxWorkbench::steepest, 300, 290);
        person(38, TaxWorkbench::averageRate, 0.1, 65000000.0 / 600000000.0);
    }

    private static Object setTo77(TaxWorkbench bench, int person) {
        bench.setPerson(person, 77, 0, 0);
        return bench.personData(person, 0);
    }

    /** The year is closed for both alone, and without taxes, so that all of their credits is carried. */
    private static Object carriedBehindAYear(TaxWorkbench bench, int person) {
        if (bench.years() == 0) {
            bench.part(0);
            bench.part(5);
            bench.setPerson(0, 0, 0, 2);
            bench.setPerson(5, 0, 0, 7);
            bench.closeYear();
        }
        return bench.carried(person, 0);
    }

    /** The first and the last person are asked; those beside them are refused. */
    private void person(int promise, Question question, Object first, Object last) {
        s.promise(promise);
        s.test("`person`: the person, 0 to 5", () -> {
            s.same("person 0", question.of(asked(), 0), first);
            s.same("person 5", question.of(asked(), 5), last);
            TaxWorkbench bench = asked();
            question.of(bench, 5);
            s.same("person 0 behind person 5", question.of(bench, 0), first);
            TaxWorkbench other = asked();
            question.of(other, 0);
            s.same("person 5 behind person 0", question.of(other, 5), last);
        });
        s.test("Throws `IndexOutOfBoundsException` if there is no such person", () -> {
            s.same("the last one", Checks.outcome(() -> question.of(asked(), 5)), last);
            s.refusesOutside(0, 5, INDEX, question::of);
        });
    }

    private void personsInCouples() {
        inCouple(24, TaxWorkbench::jointTax, 5000000L);
        inCouple(25, TaxWorkbench::separateTax, 5000000L);
        inCouple(26, TaxWorkbench::division, 1);
        inCouple(27, TaxWorkbench::choosesJoint, false);
    }

    private void inCouple(int promise, Question question, Object due) {
        s.promise(promise);
        s.test("Throws `NoSuchElementException` if the person is in no couple", () -> {
            s.same("the first one", question.of(asked(), 0), due);
            s.same("the second one", question.of(asked(), 1), due);
            s.refuses("never in one", ELEMENT, bench -> question.of(bench, 2));
            s.refuses("nobody in one", ELEMENT, TaxWorkbench::new, bench -> question.of(bench, 0));
            s.refuses("no more in one", ELEMENT, PeopleEdges::parted, bench -> question.of(bench, 0));
            s.refuses("the other one neither", ELEMENT, PeopleEdges::parted, bench -> question.of(bench, 1));
        });
    }
}
