/** Promises 5 to 14 and the paragraph Rules. */
final class RuleEdges {
    private static final Class<IndexOutOfBoundsException> INDEX = IndexOutOfBoundsException.class;
    private static final Class<IllegalArgumentException> ARGUMENT = IllegalArgumentException.class;

    private final Sentences s;

    RuleEdges(Sentences sentences) {
        s = sentences;
    }

    void all() {
        rules();
        clearing();
        brackets();
        allowances();
        charges();
        credits();
        removing();
        moving();
    }

    private void rules() {
        s.in("Rules");
        s.test("The brackets are 1 to 6 pairs of a threshold and a rate", () -> {
            s.faulty("b", 1);
            s.same("one", Checks.with("b0:1").bracketCount(), 1);
            s.same("six", Checks.with(Benches.SIX_BRACKETS).bracketCount(), 6);
            s.notAllowed("b0:1,1:2,2:3,3:4,4:5,5:6,6:7");
        });
        s.test("with strictly ascending thresholds of which the first one is 0", () -> {
            s.notAllowed("b1:1");
            s.notAllowed("b9999:1");
            s.taken("b0:1", 1);
            int[] ascending = {0, 10, 20, 30, 40, 50};
            for (int i = 1; i < 6; i++) {
                s.taken(told(ascending, i, ascending[i - 1] + 1), 1);
                s.notAllowed(told(ascending, i, ascending[i - 1]));
                s.notAllowed(told(ascending, i, Math.max(0, ascending[i - 1] - 1)));
            }
            s.taken("b0:1,9998:1,9999:1", 1);
            s.notAllowed("b0:1,9999:1,9999:1");
        });
        s.test("at first there is one, with the rate 0", () -> {
            TaxWorkbench bench = new TaxWorkbench();
            s.same("brackets", bench.bracketCount(), 1);
            s.same("threshold", bench.bracket(0, 0), 0);
            s.same("rate", bench.bracket(0, 1), 0);
        });
        s.test("The allowance has an amount, a start and a rate, at first all 0.",
                () -> settings(new TaxWorkbench(), 0, 3, 0, 0, 0, 0, 0));
        s.test("The minimum tax has an exempt income and a rate, at first both 0.",
                () -> settings(new TaxWorkbench(), 3, 5, 0, 0, 0, 0, 0));
        s.test("There are at most 4 charges, each with a threshold and an amount", this::mostCharges);
        s.test("and at most 6 credits", this::mostCredits);
        s.test("numbered from 0 in the order in which they are used", () -> {
            TaxWorkbench bench = Benches.alone("b0:100;n4,0,0,0;n7,0,0,0", 0, 100, 0, 0);
            s.same("the first one is used wholly", bench.creditPart(0, 0, 1), 4000000);
            s.same("the last one is used for the rest", bench.creditPart(0, 1, 1), 6000000);
            bench.moveCredit(1, 0);
            s.same("then the other one wholly", bench.creditPart(0, 0, 1), 7000000);
            s.same("and the first one for the rest", bench.creditPart(0, 1, 1), 3000000);
        });
        s.test("and is for each dependent or not", () -> {
            TaxWorkbench bench = Checks.with("n1,2,3,4;n1,2,3,4*");
            s.same("not", bench.credit(0, 5), 0);
            s.same("for each", bench.credit(1, 5), 1);
        });
        s.test("The kinds are 0 limited, 1 refundable, 2 carried.", () -> {
            TaxWorkbench bench = Checks.with("n5,0,0,0;r5,0,0,0;k5,0,0,0");
            for (int i = 0; i < 3; i++) {
                s.same("kind of " + i, bench.credit(i, 0), i);
            }
            s.same("the limited one is lost", bench.creditPart(0, 0, 2), 5000000);
            s.same("the refundable one is used", bench.creditPart(0, 1, 1), 5000000);
            s.same("the carried one is carried", bench.creditPart(0, 2, 3), 5000000);
        });
    }

    /** Brackets with these thresholds, of which the one at the index is another. */
    private String told(int[] thresholds, int index, int other) {
        StringBuilder text = new StringBuilder("b0:1");
        for (int i = 1; i < thresholds.length; i++) {
            text.append(',').append(i == index ? other : thresholds[i]).append(":1");
        }
        return text.toString();
    }

    private void settings(TaxWorkbench bench, int from, int to, int... due) {
        for (int i = from; i < to; i++) {
            s.same("number " + i, bench.allowance(i), due[i]);
        }
    }

    private void mostCharges() {
        Benches.Recipe three = () -> Checks.with("c1,2;c3,4;c5,6");
        TaxWorkbench bench = three.make();
        Checks.rules(bench, "c7,8");
        s.same("four", bench.chargeCount(), 4);
        s.notAllowed("c1,2;c3,4;c5,6;c7,8;c9,10");
        s.refusesText("c7,8;c9,10", IllegalStateException.class, -1, three);
        s.refusesText("c7,8", IllegalStateException.class, -1, Benches::full);
        bench.clearRules();
        Checks.rules(bench, Benches.FOUR_CHARGES);
        s.same("four once more", bench.chargeCount(), 4);
    }

    private void mostCredits() {
        Benches.Recipe five = () -> Checks.with(Benches.SIX_CREDITS.substring(0, Benches.SIX_CREDITS.lastIndexOf(';')));
        TaxWorkbench bench = five.make();
        Checks.rules(bench, "k7,0,0,0");
        s.same("six", bench.creditCount(), 6);
        s.notAllowed(Benches.SIX_CREDITS + ";n7,0,0,0");
        for (String kind : new String[] {"n", "r", "k"}) {
            s.refusesText("k7,0,0,0;" + kind + "8,0,0,0", IllegalStateException.class, -1, five);
            s.refusesText(kind + "7,0,0,0*", IllegalStateException.class, -1, Benches::full);
        }
        bench.removeCredit(3);
        Checks.rules(bench, "k8,0,0,0");
        s.same("six once more", bench.creditCount(), 6);
        s.same("the latest one is the last", bench.credit(5, 1), 8);
    }

    private void clearing() {
        s.promise(5);
        s.test("Makes all rules as they are at first, without charges and credits", () -> {
            TaxWorkbench bench = Benches.full();
            Checks.rules(bench, "a1,2,3;m4,5");
            bench.clearRules();
            s.same("the state", State.nowOf(bench), State.nowOf(new TaxWorkbench()));
            Checks.rules(bench, Benches.FOUR_CHARGES);
            Checks.rules(bench, Benches.SIX_CREDITS);
            s.same("charges once more", bench.chargeCount(), 4);
            s.same("credits once more", bench.creditCount(), 6);
        });
        s.test("all carried amounts become 0", () -> {
            TaxWorkbench bench = Checks.with("k1,0,0,0;k2,0,0,0;k3,0,0,0;k4,0,0,0;k5,0,0,0;k6,0,0,0");
            bench.closeYear();
            s.same("before", bench.carried(5, 5), 6000000);
            bench.clearRules();
            Checks.rules(bench, "k1,0,0,0;k2,0,0,0;k3,0,0,0;k4,0,0,0;k5,0,0,0;k6,0,0,0");
            for (int i = 0; i < 6; i++) {
                for (int j = 0; j < 6; j++) {
                    s.same("carried of " + i + " for credit " + j, bench.carried(i, j), 0);
                }
            }
        });
        s.test("Returns the number of charges and credits that there were.", () -> {
            s.same("none", new TaxWorkbench().clearRules(), 0);
            s.same("brackets are none of them", Checks.with(Benches.SIX_BRACKETS + ";a1,2,3;m1,2").clearRules(), 0);
            s.same("a charge", Checks.with("c0,0").clearRules(), 1);
            s.same("a credit", Checks.with("n0,0,0,0").clearRules(), 1);
            TaxWorkbench bench = Benches.full();
            s.same("all", bench.clearRules(), 10);
            s.same("none any more", bench.clearRules(), 0);
        });
    }

    private void brackets() {
        s.promise(6);
        s.test("Returns 1 to 6.", () -> {
            TaxWorkbench bench = new TaxWorkbench();
            s.same("at first", bench.bracketCount(), 1);
            Checks.rules(bench, Benches.SIX_BRACKETS);
            s.same("the most", bench.bracketCount(), 6);
            Checks.rules(bench, "b0:0");
            s.same("the fewest", bench.bracketCount(), 1);
        });
        s.promise(7);
        s.test("`index`: the index, from 0", () -> {
            int[] thresholds = {0, 10, 20, 30, 40, 9999};
            TaxWorkbench bench = Benches.full();
            for (int i = 0; i < 6; i++) {
                s.same("threshold " + i, bench.bracket(i, 0), thresholds[i]);
            }
        });
        s.test("`part`: 0 for the threshold, 1 for the rate", () -> {
            s.same("threshold", Benches.full().bracket(5, 0), 9999);
            s.same("rate", Benches.full().bracket(5, 1), 999);
        });
        s.test("Throws `IndexOutOfBoundsException` if there is no such bracket", () -> {
            s.same("the only one", Checks.with("b0:7").bracket(0, 1), 7);
            s.refusesOutside(0, 0, INDEX, TaxWorkbench::new, (bench, index) -> bench.bracket(index, 0));
            s.same("the last one", Benches.full().bracket(5, 0), 9999);
            s.refusesOutside(0, 5, INDEX, Benches::full, (bench, index) -> bench.bracket(index, 1));
            s.refuses("one that there was", INDEX, RuleEdges::shrunk, bench -> bench.bracket(2, 0));
            s.same("the last one that is left", shrunk().bracket(1, 1), 5);
            s.refuses("no such part either", INDEX, bench -> bench.bracket(2, 2));
        });
        s.test("Throws `IllegalArgumentException` if the part is out of range",
                () -> s.refusesOutside(0, 1, ARGUMENT, (bench, part) -> bench.bracket(1, part)));
    }

    /** Of six brackets, four charges and six credits, two brackets and five credits are left. */
    private static TaxWorkbench shrunk() {
        TaxWorkbench bench = Benches.full();
        Checks.rules(bench, "b0:4,7:5");
        bench.removeCredit(5);
        return bench;
    }

    private void allowances() {
        s.promise(8);
        s.test("`part`: 0 for the amount, 1 for the start, 2 for the rate of the allowance, 3 for the exempt",
                () -> settings(Checks.with("a11,12,13;m14,15"), 0, 5, 11, 12, 13, 14, 15));
        s.test("Throws `IllegalArgumentException` if the part is out of range",
                () -> s.refusesOutside(0, 4, ARGUMENT, (bench, part) -> bench.allowance(part)));
    }

    private void charges() {
        s.promise(9);
        s.test("Returns 0 to 4.", () -> {
            s.same("none", new TaxWorkbench().chargeCount(), 0);
            s.same("one", Checks.with("c0,0").chargeCount(), 1);
            s.same("all", Benches.full().chargeCount(), 4);
        });
        s.promise(10);
        s.test("`index`: the index, from 0 in the order in which they were added", () -> {
            int[] amounts = {1, 2, 3, 9999};
            TaxWorkbench bench = Benches.full();
            for (int i = 0; i < 4; i++) {
                s.same("amount " + i, bench.charge(i, 1), amounts[i]);
            }
        });
        s.test("`part`: 0 for the threshold, 1 for the amount", () -> {
            s.same("threshold", Benches.full().charge(2, 0), 0);
            s.same("amount", Benches.full().charge(2, 1), 3);
        });
        s.test("Throws `IndexOutOfBoundsException` if there is no such charge", () -> {
            s.refusesOutside(0, -1, INDEX, TaxWorkbench::new, (bench, index) -> bench.charge(index, 0));
            s.same("the only one", Checks.with("c1,2").charge(0, 1), 2);
            s.refusesOutside(0, 0, INDEX, () -> Checks.with("c1,2"), (bench, index) -> bench.charge(index, 0));
            s.same("the last one", Benches.full().charge(3, 0), 9999);
            s.refusesOutside(0, 3, INDEX, Benches::full, (bench, index) -> bench.charge(index, 1));
            s.refuses("one that there was", INDEX, RuleEdges::cleared, bench -> bench.charge(0, 0));
            s.refuses("no such part either", INDEX, bench -> bench.charge(1, 2));
        });
        s.test("Throws `IllegalArgumentException` if the part is out of range",
                () -> s.refusesOutside(0, 1, ARGUMENT, (bench, part) -> bench.charge(0, part)));
    }

    private static TaxWorkbench cleared() {
        TaxWorkbench bench = Benches.full();
        bench.clearRules();
        return bench;
    }

    private void credits() {
        s.promise(11);
        s.test("Returns 0 to 6.", () -> {
            s.same("none", new TaxWorkbench().creditCount(), 0);
            s.same("one", Checks.with("n0,0,0,0").creditCount(), 1);
            s.same("all", Benches.full().creditCount(), 6);
        });
        s.promise(12);
        s.test("`credit`: the number of the credit", () -> {
            for (int i = 0; i < 6; i++) {
                s.same("amount of " + i, Benches.full().credit(i, 1), i + 1);
            }
        });
        s.test("`part`: 0 for the kind, 1 for the amount, 2 for the phase-in, 3 for the start", () -> {
            int[] due = {2, 6, 7, 8, 9, 1};
            for (int i = 0; i < 6; i++) {
                s.same("part " + i, Benches.full().credit(5, i), due[i]);
            }
            s.same("not for each", Benches.full().credit(2, 5), 0);
        });
        s.test("Throws `IndexOutOfBoundsException` if there is no such credit", () -> {
            s.refusesOutside(0, -1, INDEX, TaxWorkbench::new, (bench, credit) -> bench.credit(credit, 0));
            s.same("the last one", Benches.full().credit(5, 1), 6);
            s.refusesOutside(0, 5, INDEX, Benches::full, (bench, credit) -> bench.credit(credit, 5));
            s.refuses("one that there was", INDEX, RuleEdges::shrunk, bench -> bench.credit(5, 0));
            s.same("the last one that is left", shrunk().credit(4, 1), 5);
            s.refuses("no such part either", INDEX, bench -> bench.credit(3, 6));
        });
        s.test("Throws `IllegalArgumentException` if the part is out of range",
                () -> s.refusesOutside(0, 5, ARGUMENT, (bench, part) -> bench.credit(2, part)));
    }

    /** Six carried credits of 1 to 6; of each, all is carried for everybody. */
    private static TaxWorkbench carrying() {
        TaxWorkbench bench = Checks.with("k1,0,0,0;k2,0,0,0;k3,0,0,0;k4,0,0,0;k5,0,0,0;k6,0,0,0");
        bench.closeYear();
        return bench;
    }

    private void order(TaxWorkbench bench, String what, int... amounts) {
        s.same(what + ": credits", bench.creditCount(), amounts.length);
        for (int i = 0; i < amounts.length; i++) {
            s.same(what + ": amount of " + i, bench.credit(i, 1), amounts[i]);
            for (int j = 0; j < 6; j++) {
                s.same(what + ": carried of " + j + " for " + i, bench.carried(j, i), amounts[i] * 1000000L);
            }
        }
    }

    private void removing() {
        s.promise(13);
        s.test("Removes a credit with its carried amounts.", () -> {
            TaxWorkbench bench = carrying();
            bench.removeCredit(5);
            Checks.rules(bench, "k7,0,0,0");
            s.same("a new one at its place", bench.credit(5, 1), 7);
            for (int i = 0; i < 6; i++) {
                s.same("carried of " + i + " for the new one", bench.carried(i, 5), 0);
            }
        });
        s.test("The numbers of all later ones decrease by 1.", () -> {
            TaxWorkbench bench = carrying();
            bench.removeCredit(0);
            order(bench, "the first one", 2, 3, 4, 5, 6);
            bench.removeCredit(4);
            order(bench, "the last one", 2, 3, 4, 5);
            bench.removeCredit(2);
            order(bench, "one between", 2, 3, 5);
        });
        s.test("`credit`: the number of the credit", () -> {
            int[][] left = {{2, 3, 4, 5, 6}, {1, 3, 4, 5, 6}, {1, 2, 4, 5, 6}, {1, 2, 3, 5, 6}, {1, 2, 3, 4, 6},
                {1, 2, 3, 4, 5}};
            for (int i = 0; i < 6; i++) {
                TaxWorkbench bench = carrying();
                bench.removeCredit(i);
                order(bench, "without " + i, left[i]);
            }
        });
        s.test("Returns the number of credits that remain.", () -> {
            TaxWorkbench bench = carrying();
            for (int i = 5; i >= 0; i--) {
                s.same("one fewer", bench.removeCredit(i / 2), i);
            }
            s.same("credits", bench.creditCount(), 0);
        });
        s.test("Throws `IndexOutOfBoundsException` if there is no such credit", () -> {
            s.same("the only one", Checks.with("k1,0,0,0").removeCredit(0), 0);
            s.refusesOutside(0, -1, INDEX, TaxWorkbench::new, (bench, credit) -> bench.removeCredit(credit));
            s.refusesOutside(0, 2, INDEX, (bench, credit) -> bench.removeCredit(credit));
            s.same("the last one", Benches.busy().removeCredit(2), 2);
            s.refusesOutside(0, 5, INDEX, Benches::full, (bench, credit) -> bench.removeCredit(credit));
            s.refuses("one that there was", INDEX, RuleEdges::shrunk, bench -> bench.removeCredit(5));
        });
    }

    private void moving() {
        s.promise(14);
        s.test("those between get numbers that are lower or higher by 1", () -> {
            moved(0, 5, 2, 3, 4, 5, 6, 1);
            moved(5, 0, 6, 1, 2, 3, 4, 5);
            moved(1, 4, 1, 3, 4, 5, 2, 6);
            moved(4, 1, 1, 5, 2, 3, 4, 6);
            moved(2, 3, 1, 2, 4, 3, 5, 6);
            moved(3, 2, 1, 2, 4, 3, 5, 6);
        });
        s.test("`credit`: the number of the credit", () -> {
            moved(0, 1, 2, 1, 3, 4, 5, 6);
            moved(5, 4, 1, 2, 3, 4, 6, 5);
            s.refusesOutside(0, 2, INDEX, (bench, credit) -> bench.moveCredit(credit, 0));
        });
        s.test("`to`: its new number", () -> {
            moved(1, 0, 2, 1, 3, 4, 5, 6);
            moved(4, 5, 1, 2, 3, 4, 6, 5);
            for (int i = 0; i < 6; i++) {
                moved(i, i, 1, 2, 3, 4, 5, 6);
            }
            s.refusesOutside(0, 2, INDEX, (bench, to) -> bench.moveCredit(1, to));
        });
        s.test("Throws `IndexOutOfBoundsException` if one of both is not the number of a credit", () -> {
            s.refusesOutside(0, -1, INDEX, TaxWorkbench::new, (bench, credit) -> bench.moveCredit(credit, credit));
            s.refusesOutside(0, 5, INDEX, Benches::full, (bench, credit) -> bench.moveCredit(credit, 5));
            s.refusesOutside(0, 5, INDEX, Benches::full, (bench, to) -> bench.moveCredit(5, to));
            s.refuses("from one that there was", INDEX, RuleEdges::shrunk, bench -> bench.moveCredit(5, 4));
            s.refuses("to one that there was", INDEX, RuleEdges::shrunk, bench -> bench.moveCredit(4, 5));
            s.refuses("both", INDEX, bench -> bench.moveCredit(3, 3));
            TaxWorkbench bench = shrunk();
            bench.moveCredit(4, 0);
            s.same("the last one that is left", bench.credit(0, 1), 5);
        });
    }

    private void moved(int credit, int to, int... amounts) {
        TaxWorkbench bench = carrying();
        bench.moveCredit(credit, to);
        order(bench, credit + " to " + to, amounts);
    }
}
