import java.util.NoSuchElementException;

/** Promises 32 to 37 and the paragraph Explorer. */
final class ExplorerEdges {
    private static final Class<IllegalArgumentException> ARGUMENT = IllegalArgumentException.class;
    private static final Class<NoSuchElementException> ELEMENT = NoSuchElementException.class;
    private static final String FIRST_AND_LAST = "b0:100,1:200,9998:300";

    private final Sentences s;

    ExplorerEdges(Sentences sentences) {
        s = sentences;
    }

    void all() {
        curves();
        marginalRates();
        kinks();
        causes();
        nextKinks();
        kinkCauses();
        steepest();
    }

    /** The places of all kinks of person 0, each followed by its cause. */
    private void kinked(String rules, int... due) {
        kinked(Checks.with(rules), rules, due);
    }

    private void kinked(TaxWorkbench bench, String rules, int... due) {
        s.same(rules + ": kinks", bench.kinks(0), due.length / 2);
        int place = Integer.MIN_VALUE;
        for (int i = 0; i < due.length; i += 2) {
            place = nextAbove(bench, place);
            s.same(rules + ": kink " + i / 2, place, due[i]);
            int kink = place;
            s.same(rules + ": cause at " + place, Checks.outcome(() -> bench.kinkCause(0, kink)), due[i + 1]);
        }
        s.same(rules + ": no more kinks", nextAbove(bench, place), -1);
    }

    private static int nextAbove(TaxWorkbench bench, int earned) {
        Object next = Checks.outcome(() -> bench.nextKink(0, earned));
        return next instanceof Integer ? (Integer) next : -1;
    }

    private void curves() {
        s.in("Explorer");
        s.test("with everything else as it is, for earned incomes from 0 to 9999", () -> {
            TaxWorkbench bench = Checks.with("b0:100;k10,0,0,0*;m9999,0");
            bench.setPerson(0, 0, 0, 1);
            bench.closeYear();
            bench.setPerson(0, 5000, 9999, 2);
            bench.marry(0, 1);
            s.same("at 0", bench.curve(0, 0), 999900000 - 30000000);
            s.same("at 9999", bench.curve(0, 9999), 1999800000 - 30000000);
            s.same("at its own income", bench.curve(0, 5000), bench.tax(0));
            s.same("asking does not earn", bench.personData(0, 0), 5000);
        });
        s.promise(32);
        s.test("`earned`: the earned income, 0 to 9999", () -> {
            s.same("0", Checks.with("b0:100;c0,1").curve(5, 0), 1000000);
            s.same("1", Checks.with("b0:100;c0,1").curve(5, 1), 1100000);
            s.same("9998", Checks.with("b0:100;c9999,1").curve(5, 9998), 999800000);
            s.same("9999", Checks.with("b0:100;c9999,1").curve(5, 9999), 1000900000);
        });
        s.test("Throws `IllegalArgumentException` if the income is out of range", () -> {
            s.refusesOutside(0, 9999, ARGUMENT, (bench, earned) -> bench.curve(0, earned));
            s.refusesOutside(0, 9999, ARGUMENT, TaxWorkbench::new, (bench, earned) -> bench.curve(5, earned));
        });
    }

    private void marginalRates() {
        s.in("Explorer");
        s.test("The marginal rate at e, from 0 to 9998, is the tax at e plus 1 less the tax at e.", () -> {
            TaxWorkbench bench = Checks.with(FIRST_AND_LAST);
            int[] places = {0, 1, 2, 9997, 9998};
            long[] due = {100000, 200000, 200000, 200000, 300000};
            for (int i = 0; i < places.length; i++) {
                s.same("at " + places[i], bench.marginalRate(3, places[i]), due[i]);
            }
            s.same("negative", Checks.with("r9999,999,0,0").marginalRate(3, 0), -999000);
            s.same("none", new TaxWorkbench().marginalRate(3, 9998), 0);
            s.same("the greatest", Checks.with("c1,9999;c1,9999;c1,9999;c1,9999").marginalRate(3, 0), 39996000000L);
        });
        s.promise(33);
        s.test("`earned`: the earned income, 0 to 9998", () -> {
            s.same("0", Checks.with("c1,7").marginalRate(0, 0), 7000000);
            s.same("1", Checks.with("c1,7").marginalRate(0, 1), 0);
            s.same("9997", Checks.with("c9999,7").marginalRate(0, 9997), 0);
            s.same("9998", Checks.with("c9999,7").marginalRate(0, 9998), 7000000);
        });
        s.test("Throws `IllegalArgumentException` if the income is out of range", () -> {
            s.refusesOutside(0, 9998, ARGUMENT, (bench, earned) -> bench.marginalRate(0, earned));
            s.refusesOutside(0, 9998, ARGUMENT, TaxWorkbench::new, (bench, earned) -> bench.marginalRate(5, earned));
        });
    }

    private void kinks() {
        s.in("Explorer");
        s.test("There is a kink at e, from 1 to 9998", () -> {
            kinked(FIRST_AND_LAST, 1, 0, 9998, 0);
            kinked("b0:0,9999:100");
            kinked(Benches.alone("b0:0,100:100", 0, 0, 99, 0), "threshold at 1", 1, 0);
            kinked(Benches.alone("b0:0,100:100", 0, 0, 100, 0), "threshold at 0");
            kinked(Benches.alone("b0:0,9999:100", 0, 0, 1, 0), "threshold at 9998", 9998, 0);
            kinked("c0,7");
            kinked("c1,7", 1, 3);
            kinked("c2,7", 1, 3, 2, 3);
            kinked("c9998,7", 9997, 3, 9998, 3);
            kinked("c9999,7", 9998, 3);
            kinked(Benches.alone("c9999,7", 0, 0, 9999, 0), "charge passed");
        });
        s.test("if the marginal rates at e minus 1 and at e are different", () -> {
            kinked("b0:100,500:100");
            kinked("b0:100,500:101", 500, 0);
            kinked("b0:101,500:100", 500, 0);
            kinked("b0:0,5:100,50:0;n5,0,0,0");
            kinked("b0:0,9000:1", 9000, 0);
        });
        s.promise(34);
        s.test("Returns the number of kinks of the curve of a person.", () -> {
            s.same("none", new TaxWorkbench().kinks(5), 0);
            s.same("one", Checks.with("b0:0,500:1").kinks(5), 1);
            s.same("five brackets", Checks.with("b0:0,1:1,2:2,3:3,4:4,5:5").kinks(5), 5);
            s.same("four charges", Checks.with("c10,1;c20,1;c30,1;c40,1").kinks(5), 8);
        });
    }

    private void causes() {
        s.in("Explorer");
        s.test("0 the scheduled tax, 1 the minimum, 2 the base, 3 the charged tax", () -> {
            kinked("b0:0,500:100", 500, 0);
            kinked("b0:100;a100,300,500", 100, 0, 300, 0, 500, 0);
            kinked("m500,100", 500, 1);
            kinked("b0:100;m50,150", 150, 2);
            kinked("c500,1", 499, 3, 500, 3);
        });
        s.test("and 4 plus k the rest behind credit k", () -> {
            StringBuilder rules = new StringBuilder();
            for (int i = 0; i < 6; i++) {
                kinked(rules + "r50,100,0,0", 500, 4 + i);
                rules.append("r0,0,0,0;");
            }
            kinked("r1,0,0,0;r1,0,0,0;r1,0,0,0;r1,0,0,0;r1,0,0,0;r90,0,9000,100", 9000, 9, 9900, 9);
            kinked("r50,100,0,0;r0,0,0,0;r0,0,0,0;r0,0,0,0;r0,0,0,0;r0,0,0,0", 500, 4);
        });
        s.test("the first of these parts that, as a function of the earned income, has different", () -> {
            kinked("b0:0,500:100;m0,500;r50,100,0,0", 500, 0);
            kinked("b0:0,501:100;m0,500;r50,100,0,0", 500, 4);
            kinked("m500,100;c500,1", 499, 3, 500, 1);
            kinked("b0:100;m50,150;c150,1", 149, 3, 150, 2);
            kinked("c500,1;r50,100,0,0", 499, 3, 500, 3);
            kinked("r50,100,0,0;r60,120,0,0", 500, 4);
            kinked("b0:0,500:100;r50,0,500,100;n0,0,0,0", 500, 0, 1000, 4);
        });
    }

    private void nextKinks() {
        s.promise(35);
        s.test("Returns the first kink above an earned income.", () -> {
            TaxWorkbench bench = Checks.with("b0:0,300:1,500:2");
            int[] above = {0, 299, 300, 499};
            int[] due = {300, 300, 500, 500};
            for (int i = 0; i < above.length; i++) {
                s.same("above " + above[i], bench.nextKink(5, above[i]), due[i]);
            }
        });
        s.test("`earned`: the earned income, any number", () -> {
            TaxWorkbench bench = Checks.with(FIRST_AND_LAST);
            for (int earned : new int[] {Integer.MIN_VALUE, Integer.MIN_VALUE + 1, -10000, -1, 0}) {
                s.same("above " + earned, bench.nextKink(0, earned), 1);
            }
            for (int earned : new int[] {1, 2, 9996, 9997}) {
                s.same("above " + earned, bench.nextKink(0, earned), 9998);
            }
        });
        s.test("Throws `NoSuchElementException` if there is none", () -> {
            Benches.Recipe both = () -> Checks.with(FIRST_AND_LAST);
            s.same("above 9997", both.make().nextKink(0, 9997), 9998);
            for (int earned : new int[] {9998, 9999, 10000, 65536, Integer.MAX_VALUE - 1, Integer.MAX_VALUE}) {
                s.refuses("above " + earned, ELEMENT, both, bench -> bench.nextKink(0, earned));
            }
            Benches.Recipe one = () -> Checks.with("b0:0,300:1");
            s.same("above 299", one.make().nextKink(0, 299), 300);
            s.refuses("above the only one", ELEMENT, one, bench -> bench.nextKink(0, 300));
            s.refuses("no kinks", ELEMENT, TaxWorkbench::new, bench -> bench.nextKink(0, Integer.MIN_VALUE));
            s.refuses("busy", ELEMENT, bench -> bench.nextKink(0, 9998));
        });
    }

    private void kinkCauses() {
        s.promise(36);
        s.test("`earned`: the place of the kink", () -> {
            TaxWorkbench bench = Checks.with(FIRST_AND_LAST);
            s.same("1", bench.kinkCause(5, 1), 0);
            s.same("9998", bench.kinkCause(5, 9998), 0);
        });
        s.test("Throws `NoSuchElementException` if there is no kink at this place", () -> {
            Benches.Recipe both = () -> Checks.with(FIRST_AND_LAST);
            for (int place : new int[] {0, 2, 9997, 9999, -1, 10000, 65537, -65535, Integer.MAX_VALUE,
                Integer.MIN_VALUE}) {
                s.refuses("at " + place, ELEMENT, both, bench -> bench.kinkCause(5, place));
            }
            s.same("at 300", Checks.with("b0:0,300:1").kinkCause(0, 300), 0);
            s.refuses("below", ELEMENT, () -> Checks.with("b0:0,300:1"), bench -> bench.kinkCause(0, 299));
            s.refuses("above", ELEMENT, () -> Checks.with("b0:0,300:1"), bench -> bench.kinkCause(0, 301));
            s.same("at 9998", Checks.with("b0:0,9998:1").kinkCause(0, 9998), 0);
            s.refuses("where a threshold is at 9999", ELEMENT, () -> Checks.with("b0:0,9999:1"),
                    bench -> bench.kinkCause(0, 9999));
            s.refuses("where a threshold is at 0", ELEMENT, () -> Benches.alone("b0:0,9:1", 0, 0, 9, 0),
                    bench -> bench.kinkCause(0, 0));
            s.refuses("a part's that the tax does not have", ELEMENT, () -> Checks.with("b0:0,300:1;m0,2"),
                    bench -> bench.kinkCause(0, 300));
            s.refuses("busy", ELEMENT, bench -> bench.kinkCause(0, 9999));
        });
    }

    private void steepest() {
        s.promise(37);
        s.test("Returns the lowest earned income with the greatest marginal rate.", () -> {
            s.same("all are equal", Checks.with("b0:100").steepest(5), 0);
            s.same("equal from 500 on", Checks.with("b0:100,500:101").steepest(5), 500);
            s.same("equal below 500", Checks.with("b0:101,500:100").steepest(5), 0);
            s.same("two cliffs", Checks.with("c300,7;c200,7").steepest(5), 199);
            s.same("with a tax at 0", Checks.with("c0,5;b0:100,500:101").steepest(5), 500);
            s.same("with a negative tax at 0", Checks.with("r5,0,0,0;b0:101,500:100").steepest(5), 0);
            s.same("with a charge from 0 on", Benches.alone("c100,5;c300,1", 0, 0, 100, 0).steepest(0), 199);
            s.same("negative and equal", Checks.with("r9999,1,0,0").steepest(5), 0);
            s.same("negative, then less so", Checks.with("r50,100,0,0;r9999,1,0,0").steepest(5), 500);
        });
        s.test("Returns the earned income, 0 to 9998.", () -> {
            s.same("no taxes", new TaxWorkbench().steepest(0), 0);
            s.same("a cliff at 1", Checks.with("c1,1").steepest(0), 0);
            s.same("a cliff at 2", Checks.with("c2,1").steepest(0), 1);
            s.same("a cliff at 9998", Checks.with("c9998,1").steepest(0), 9997);
            s.same("a cliff at 9999", Checks.with("c9999,1").steepest(0), 9998);
            s.same("a threshold at 9998", Checks.with("b0:0,9998:1").steepest(0), 9998);
            s.same("a threshold at 9999", Checks.with("b0:0,9999:1").steepest(0), 0);
            s.same("a cliff passed", Benches.alone("c9999,1", 0, 0, 9999, 0).steepest(0), 0);
        });
    }
}
