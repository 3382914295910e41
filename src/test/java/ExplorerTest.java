import java.util.NoSuchElementException;

/** Promises 32 to 39: the curve, marginal rates, kinks, their causes, and averages. */
public final class ExplorerTest {
    private static final Class<IndexOutOfBoundsException> INDEX = IndexOutOfBoundsException.class;
    private static final Class<IllegalArgumentException> ARGUMENT = IllegalArgumentException.class;
    private static final Class<NoSuchElementException> ELEMENT = NoSuchElementException.class;
    private static final Checks checks = new Checks("ExplorerTest");

    public static void main(String[] args) {
        promises32And33();
        noTaxes();
        firstAndLastPlaces();
        causes();
        creditCauses();
        everythingElseAsItIs();
        everyCallForItsPerson();
        promise37();
        promise38();
        promise39();
        refusals();
        checks.end();
    }

    /** The places of all kinks, by count and one after another, each with its cause. */
    private static void kinks(TaxWorkbench bench, int person, int... placesAndCauses) {
        checks.same("kinks of " + person, bench.kinks(person), placesAndCauses.length / 2);
        int place = Integer.MIN_VALUE;
        for (int i = 0; i < placesAndCauses.length; i += 2) {
            int due = placesAndCauses[i];
            checks.same("kink above " + place, bench.nextKink(person, place), due);
            checks.same("kink above " + (due - 1), bench.nextKink(person, due - 1), due);
            checks.same("cause at " + due, bench.kinkCause(person, due), placesAndCauses[i + 1]);
            place = due;
        }
        int last = place;
        checks.refused("kink above the last one, " + last, ELEMENT, () -> bench.nextKink(person, last));
    }

    private static void promises32And33() {
        TaxWorkbench bench = Checks.with("b0:100,500:200;a100,300,500");
        bench.setPerson(3, 7777, 0, 0);
        checks.same("curve at 0", bench.curve(3, 0), 0);
        checks.same("curve at 100", bench.curve(3, 100), 0);
        checks.same("curve at 101", bench.curve(3, 101), 100000);
        checks.same("curve at 400", bench.curve(3, 400), 35000000);
        checks.same("curve at 9999", bench.curve(3, 9999), 1949800000);
        checks.same("curve at the person's income", bench.curve(3, 7777), bench.tax(3));
        checks.same("the person stays", bench.personData(3, 0), 7777);
        checks.same("rate at 0", bench.marginalRate(3, 0), 0);
        checks.same("rate at 99", bench.marginalRate(3, 99), 0);
        checks.same("rate at 100", bench.marginalRate(3, 100), 100000);
        checks.same("rate at 300", bench.marginalRate(3, 300), 150000);
        checks.same("rate at 500", bench.marginalRate(3, 500), 200000);
        checks.same("rate at 9998", bench.marginalRate(3, 9998), 200000);
        kinks(bench, 3, 100, 0, 300, 0, 500, 0);
        checks.refused("no kink at 301", ELEMENT, () -> bench.kinkCause(3, 301));
    }

    private static void noTaxes() {
        TaxWorkbench bench = new TaxWorkbench();
        kinks(bench, 0);
        checks.same("steepest", bench.steepest(0), 0);
        checks.refused("next kink", ELEMENT, () -> bench.nextKink(0, 0));
        checks.refused("cause", ELEMENT, () -> bench.kinkCause(0, 5000));
    }

    private static void firstAndLastPlaces() {
        TaxWorkbench bench = Checks.with("b0:0,1:100,9998:200,9999:300");
        kinks(bench, 0, 1, 0, 9998, 0);
        kinks(Checks.with("b0:0,9999:300"), 0);
        checks.same("nothing steep at 9999", Checks.with("b0:0,9999:300").steepest(0), 0);
        checks.same("above -1", bench.nextKink(0, -1), 1);
        checks.same("above 0", bench.nextKink(0, 0), 1);
        checks.same("above 1", bench.nextKink(0, 1), 9998);
        for (int place : new int[] {9998, 9999, 10000, Integer.MAX_VALUE - 1, Integer.MAX_VALUE}) {
            checks.refused("above " + place, ELEMENT, () -> bench.nextKink(0, place));
        }
        for (int place : new int[] {0, 2, 9997, 9999, 10000, -1, Integer.MAX_VALUE, Integer.MIN_VALUE}) {
            checks.refused("cause at " + place, ELEMENT, () -> bench.kinkCause(0, place));
        }
    }

    private static void causes() {
        kinks(Checks.with("m50,150"), 0, 50, 1);
        kinks(Checks.with("b0:100;m50,150"), 0, 150, 2);
        kinks(Checks.with("b0:100;m50,170"), 0, 121, 2, 122, 2);
        kinks(Checks.with("b0:100,50:110;m50,170"), 0, 50, 0, 133, 2, 134, 2);
        kinks(Checks.with("c300,7"), 0, 299, 3, 300, 3);
        kinks(Checks.with("c0,7;c1,1"), 0, 1, 3);
        kinks(Checks.with("c9999,7"), 0, 9998, 3);
        kinks(Checks.with("b0:0,300:100;c300,7"), 0, 299, 3, 300, 0);
        kinks(Checks.with("b0:100,100:300;m100,900"), 0, 100, 0, 116, 2, 117, 2);
        kinks(Checks.with("m100,900;b0:0,400:10"), 0, 100, 1);
    }

    private static void creditCauses() {
        kinks(Checks.with("r50,100,0,0"), 0, 500, 4);
        kinks(Checks.with("n0,0,0,0;r50,100,0,0"), 0, 500, 5);
        kinks(Checks.with("b0:100;n20,0,0,0"), 0, 200, 4);
        kinks(Checks.with("b0:100;k20,0,0,0;r3,0,100,30"), 0, 100, 5, 200, 4);
        kinks(Checks.with("r50,0,0,0;r50,0,0,0;r50,0,0,0;r50,0,0,0;r50,0,0,0;r90,0,9000,100"), 0,
                9000, 9, 9900, 9);
        kinks(Checks.with("b0:0,5:100,50:0;n5,0,0,0"), 0);
        kinks(Checks.with("b0:0,5:100,50:0;n2,0,0,0"), 0, 25, 4, 50, 0);
    }

    private static void everythingElseAsItIs() {
        TaxWorkbench bench = Checks.with("b0:100,500:200;k10,0,0,0*");
        bench.setPerson(2, 0, 0, 3);
        bench.closeYear();
        bench.setPerson(2, 5, 60, 2);
        bench.setPerson(4, 0, 0, 9);
        bench.marry(2, 4);
        checks.same("its other income, dependents and carried amount", bench.curve(2, 440), 0);
        checks.same("one more", bench.curve(2, 441), 200000);
        kinks(bench, 2, 440, 0);
        bench.setPerson(2, 5, 60, 3);
        kinks(bench, 2, 490, 4);
    }

    /** Each call follows one for another person. */
    private static void everyCallForItsPerson() {
        TaxWorkbench bench = Checks.with("b0:100,500:200");
        bench.setPerson(1, 5, 600, 0);
        bench.setPerson(2, 5, 200, 0);
        checks.same("tax of 0", bench.tax(0), 0);
        checks.same("curve of 2", bench.curve(2, 400), 70000000);
        checks.same("curve of 1", bench.curve(1, 400), 150000000);
        checks.same("rate of 2", bench.marginalRate(2, 100), 100000);
        checks.same("rate of 1", bench.marginalRate(1, 100), 200000);
        checks.same("kinks of 2", bench.kinks(2), 1);
        checks.same("kinks of 1", bench.kinks(1), 0);
        checks.same("kink of 2", bench.nextKink(2, 0), 300);
        checks.refused("kink of 1", ELEMENT, () -> bench.nextKink(1, 0));
        checks.same("cause of 2", bench.kinkCause(2, 300), 0);
        checks.refused("cause of 1", ELEMENT, () -> bench.kinkCause(1, 300));
        checks.same("steepest of 2", bench.steepest(2), 300);
        checks.same("steepest of 1", bench.steepest(1), 0);
        checks.same("steepest of 0", bench.steepest(0), 500);
    }

    private static void promise37() {
        checks.same("equal rates", Checks.with("b0:100").steepest(5), 0);
        checks.same("rising", Checks.with("b0:100,500:200,600:200").steepest(5), 500);
        checks.same("falling", Checks.with("b0:300,500:200").steepest(5), 0);
        checks.same("a peak twice", Checks.with("b0:1,5:9,6:1,7:9").steepest(5), 5);
        checks.same("a cliff", Checks.with("c300,7;b0:0,400:999").steepest(5), 299);
        checks.same("two cliffs", Checks.with("c300,7;c200,7").steepest(5), 199);
        checks.same("the last place", Checks.with("c9999,1").steepest(5), 9998);
        checks.same("negative rates", Checks.with("r9999,100,0,0").steepest(5), 0);
        checks.same("negative, then 0", Checks.with("r999,100,0,0").steepest(5), 9990);
        TaxWorkbench bench = Checks.with("b0:100,500:200");
        bench.setPerson(0, 9000, 100, 0);
        checks.same("with another income", bench.steepest(0), 400);
        checks.same("of another person", bench.steepest(1), 500);
    }

    private static void promise38() {
        TaxWorkbench bench = Checks.with("m0,100;c300,7;r20,0,0,0");
        checks.refused("no income", ArithmeticException.class, () -> bench.averageRate(0));
        bench.setPerson(0, 200, 100, 0);
        checks.same("average", bench.averageRate(0), 17000000.0 / 300000000.0);
        bench.setPerson(0, 0, 7, 0);
        checks.same("negative", bench.averageRate(0), -19300000.0 / 7000000.0);
        bench.setPerson(0, 9999, 9999, 0);
        checks.same("greatest", bench.averageRate(0), 1986800000.0 / 19998000000.0);
        bench.marry(0, 1);
        checks.same("in a couple", bench.averageRate(0), 1986800000.0 / 19998000000.0);
        checks.refused("no income in a couple", ArithmeticException.class, () -> bench.averageRate(1));
        bench.clearRules();
        checks.same("no tax", bench.averageRate(0), 0.0);
    }

    private static void promise39() {
        TaxWorkbench bench = new TaxWorkbench();
        checks.same("none", bench.averageDependents(), 0.0f);
        bench.setPerson(5, 0, 0, 1);
        checks.same("one", bench.averageDependents(), 1.0f / 6.0f);
        bench.setPerson(0, 0, 0, 2);
        checks.same("three", bench.averageDependents(), 0.5f);
        for (int i = 0; i < 6; i++) {
            bench.setPerson(i, 0, 0, 9);
        }
        checks.same("all", bench.averageDependents(), 9.0f);
        bench.setPerson(3, 0, 0, 8);
        checks.same("one less", bench.averageDependents(), 53.0f / 6.0f);
    }

    private static void refusals() {
        TaxWorkbench bench = Checks.with("b0:0,500:100");
        for (int wrong : new int[] {-1, 6, Integer.MAX_VALUE, Integer.MIN_VALUE}) {
            checks.refused("curve " + wrong, INDEX, () -> bench.curve(wrong, 10000));
            checks.refused("marginalRate " + wrong, INDEX, () -> bench.marginalRate(wrong, -1));
            checks.refused("kinks " + wrong, INDEX, () -> bench.kinks(wrong));
            checks.refused("nextKink " + wrong, INDEX, () -> bench.nextKink(wrong, 9999));
            checks.refused("kinkCause " + wrong, INDEX, () -> bench.kinkCause(wrong, 0));
            checks.refused("steepest " + wrong, INDEX, () -> bench.steepest(wrong));
            checks.refused("averageRate " + wrong, INDEX, () -> bench.averageRate(wrong));
        }
        checks.refused("curve 0 -1", ARGUMENT, () -> bench.curve(0, -1));
        checks.refused("curve 0 10000", ARGUMENT, () -> bench.curve(0, 10000));
        checks.refused("marginalRate 0 -1", ARGUMENT, () -> bench.marginalRate(0, -1));
        checks.refused("marginalRate 0 9999", ARGUMENT, () -> bench.marginalRate(0, 9999));
    }
}
