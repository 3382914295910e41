/** Promises 1 to 4: a new object, the text, its reading and its fault position. */
public final class TextTest {
    private static final Checks checks = new Checks("TextTest");

    public static void main(String[] args) {
        promise1();
        promise2();
        promise3Items();
        promise3Limits();
        promise3Refusals();
        promise4();
        checks.end();
    }

    private static void promise1() {
        TaxWorkbench bench = new TaxWorkbench();
        checks.same("new: brackets", bench.bracketCount(), 1);
        checks.same("new: threshold", bench.bracket(0, 0), 0);
        checks.same("new: rate", bench.bracket(0, 1), 0);
        for (int i = 0; i < 5; i++) {
            checks.same("new: allowance " + i, bench.allowance(i), 0);
        }
        checks.same("new: charges", bench.chargeCount(), 0);
        checks.same("new: credits", bench.creditCount(), 0);
        for (int i = 0; i < 6; i++) {
            int person = i;
            for (int j = 0; j < 3; j++) {
                checks.same("new: person " + i + " part " + j, bench.personData(i, j), 0);
            }
            checks.same("new: tax of " + i, bench.tax(i), 0);
            checks.refused("new: partner of " + i, java.util.NoSuchElementException.class,
                    () -> bench.partner(person));
        }
        checks.same("new: total", bench.totalTax(), 0);
        checks.same("new: years", bench.years(), 0);
        checks.same("new: fault", bench.faultPosition(), -1);
        checks.refused("new: undo", IllegalStateException.class, bench::undo);
        checks.refusedDeed("new: restore", IllegalStateException.class, bench::restore);
        checks.same("new: first character", bench.appendCharacter('b'), 1);
    }

    private static void promise2() {
        TaxWorkbench bench = new TaxWorkbench();
        checks.refused("append 32", IllegalArgumentException.class, () -> bench.appendCharacter(32));
        checks.refused("append 127", IllegalArgumentException.class, () -> bench.appendCharacter(127));
        checks.refused("append -1", IllegalArgumentException.class, () -> bench.appendCharacter(-1));
        checks.refused("append far", IllegalArgumentException.class,
                () -> bench.appendCharacter(Integer.MAX_VALUE));
        checks.refused("append 65569", IllegalArgumentException.class,
                () -> bench.appendCharacter(65536 + 33));
        checks.same("append 33", bench.appendCharacter(33), 1);
        checks.same("append 126", bench.appendCharacter(126), 2);
        for (int i = 3; i <= 80; i++) {
            checks.same("append " + i, bench.appendCharacter('0'), i);
        }
        checks.refused("append to the full text", IllegalStateException.class,
                () -> bench.appendCharacter('0'));
        checks.refused("append a wrong one to the full text", IllegalArgumentException.class,
                () -> bench.appendCharacter(32));
        checks.refused("the full text's fault", IllegalArgumentException.class, bench::addRules);
        checks.same("append to the emptied text", bench.appendCharacter('0'), 1);
    }

    private static void promise3Items() {
        TaxWorkbench bench = new TaxWorkbench();
        checks.same("all kinds of items", Checks.rules(bench,
                "b0:10,20:999;a1,2,3;m4,5;c6,7;n8,9,10,11;r12,13,14,15*;k0016,0,0,0"), 7);
        checks.same("fault", bench.faultPosition(), -1);
        checks.same("the text is empty", bench.appendCharacter('m'), 1);
        checks.same("brackets", bench.bracketCount(), 2);
        checks.same("bracket", bench.bracket(1, 0), 20);
        checks.same("bracket's rate", bench.bracket(1, 1), 999);
        int[] settings = {1, 2, 3, 4, 5};
        for (int i = 0; i < 5; i++) {
            checks.same("allowance " + i, bench.allowance(i), settings[i]);
        }
        checks.same("charge", bench.charge(0, 0), 6);
        checks.same("charge's amount", bench.charge(0, 1), 7);
        int[][] credits = {{0, 8, 9, 10, 11, 0}, {1, 12, 13, 14, 15, 1}, {2, 16, 0, 0, 0, 0}};
        for (int i = 0; i < 3; i++) {
            for (int j = 0; j < 6; j++) {
                checks.same("credit " + i + " part " + j, bench.credit(i, j), credits[i][j]);
            }
        }
        checks.same("one item behind what was begun", Checks.rules(bench, "9999,0999"), 1);
        checks.same("the exempt income", bench.allowance(3), 9999);
        checks.same("the minimum's rate", bench.allowance(4), 999);
        checks.same("the allowance stays", bench.allowance(0), 1);
        checks.same("later brackets count", Checks.rules(bench, "b0:1,5:2,6:3;b0000:4"), 2);
        checks.same("their number", bench.bracketCount(), 1);
        checks.same("their rate", bench.bracket(0, 1), 4);
        checks.same("later allowances count", Checks.rules(bench, "a1,1,1;a2,3,4"), 2);
        checks.same("the later amount", bench.allowance(0), 2);
    }

    private static void promise3Limits() {
        TaxWorkbench bench = new TaxWorkbench();
        checks.same("six brackets", Checks.rules(bench, "b0:1,1:2,2:3,3:4,4:5,5:6"), 1);
        checks.same("their number", bench.bracketCount(), 6);
        notAllowed("seven brackets", "b0:1,1:2,2:3,3:4,4:5,5:6,6:7");
        notAllowed("twelve brackets",
                "b0:1,1:1,2:1,3:1,4:1,5:1,6:1,7:1,8:1,9:1,10:1,11:1");
        notAllowed("brackets that begin above 0", "b1:1");
        notAllowed("equal thresholds", "b0:1,5:1,5:2");
        notAllowed("0 twice", "b0:1,0:2");
        notAllowed("falling thresholds", "b0:1,5:1,4:2");
        notAllowed("a rate above 999", "b0:1000");
        notAllowed("a later rate above 999", "b0:1,1:1000");
        notAllowed("brackets not allowed before others", "b1:1;b0:1");
        notAllowed("allowance's rate", "a0,0,1000");
        notAllowed("minimum's rate", "m0,1000");
        notAllowed("phase-in", "n0,1000,0,0");
        notAllowed("phase-out", "r0,0,0,1000");
        notAllowed("phase-out for each", "k0,0,0,1000*");
        notAllowed("five charges", "c0,0;c0,0;c0,0;c0,0;c0,0");
        notAllowed("seven credits",
                "n0,0,0,0;r0,0,0,0;k0,0,0,0;n0,0,0,0;r0,0,0,0;k0,0,0,0;n0,0,0,0");
        promise3Full();
    }

    private static void promise3Full() {
        TaxWorkbench bench = new TaxWorkbench();
        checks.same("four charges", Checks.rules(bench, "c9999,9999;c1,1;c2,2;c3,3"), 4);
        checks.same("six credits", Checks.rules(bench,
                "n9999,999,9999,999;r1,0,0,0;k2,0,0,0;n3,0,0,0;r4,0,0,0;k5,0,0,0*"), 6);
        notAllowed(bench, "one charge more", "c0,0");
        notAllowed(bench, "one credit more", "k0,0,0,0");
        checks.same("charges", bench.chargeCount(), 4);
        checks.same("credits", bench.creditCount(), 6);
        checks.same("the greatest rates", Checks.rules(bench, "b0:999,1:999;a0,0,999;m0,999"), 3);
        checks.same("eighty characters", Checks.rules(new TaxWorkbench(),
                "m0,0;m0,0;m0,0;m0,0;m0,0;m0,0;m0,0;m0,0;m0,0;m0,0;m0,0;m0,0;m0,0;m0,0;m0,0;m0,00"), 16);
    }

    private static void notAllowed(String what, String text) {
        notAllowed(Checks.with("b0:1,1:2,2:3,3:4,4:5,5:6"), what, text);
    }

    /** Nothing of the text may be taken, its allowed items neither, and it is no change. */
    private static void notAllowed(TaxWorkbench bench, String what, String text) {
        int brackets = bench.bracketCount();
        int charges = bench.chargeCount();
        int credits = bench.creditCount();
        int minimum = bench.allowance(4);
        Checks.type(bench, "m0,77;" + text);
        checks.refused(what, IllegalStateException.class, bench::addRules);
        checks.same(what + ": fault", bench.faultPosition(), -1);
        checks.same(what + ": minimum", bench.allowance(4), minimum);
        checks.same(what + ": brackets", bench.bracketCount(), brackets);
        checks.same(what + ": charges", bench.chargeCount(), charges);
        checks.same(what + ": credits", bench.creditCount(), credits);
        checks.refused(what + ": text", IllegalArgumentException.class, bench::addRules);
        Checks.type(bench, text + ";m1,1x");
        checks.refused(what + " and a fault", IllegalArgumentException.class, bench::addRules);
    }

    private static void promise3Refusals() {
        TaxWorkbench bench = new TaxWorkbench();
        checks.refused("empty", IllegalArgumentException.class, bench::addRules);
        Checks.type(bench, "a1,2,3;m1,1;x");
        checks.refused("a fault", IllegalArgumentException.class, bench::addRules);
        checks.same("nothing taken", bench.allowance(0), 0);
        checks.same("the text is empty then", bench.appendCharacter('a'), 1);
        checks.refused("no change was made", IllegalStateException.class, bench::undo);
    }

    private static void promise4() {
        TaxWorkbench bench = new TaxWorkbench();
        faultAt(bench, "", 0);
        faultAt(bench, "x", 0);
        faultAt(bench, "B0:1", 0);
        faultAt(bench, ";", 0);
        faultAt(bench, "*", 0);
        faultAt(bench, "1", 0);
        faultAt(bench, "b", 1);
        faultAt(bench, "bb", 1);
        faultAt(bench, "b,", 1);
        faultAt(bench, "b0", 2);
        faultAt(bench, "b0,1", 2);
        faultAt(bench, "b0:", 3);
        faultAt(bench, "b0::", 3);
        faultAt(bench, "b0:1,", 5);
        faultAt(bench, "b0:1,2", 6);
        faultAt(bench, "b0:1,2,", 6);
        faultAt(bench, "b0:1:", 4);
        faultAt(bench, "b0:1*", 4);
        faultAt(bench, "b00000:1", 5);
        faultAt(bench, "b0:00010", 7);
        faultAt(bench, "a1,2", 4);
        faultAt(bench, "a1,2;", 4);
        faultAt(bench, "a1,2,3,", 6);
        faultAt(bench, "a1,2,3*", 6);
        faultAt(bench, "m1", 2);
        faultAt(bench, "m1:", 2);
        faultAt(bench, "m1,2,", 4);
        faultAt(bench, "c1,", 3);
        faultAt(bench, "c,", 1);
        faultAt(bench, "c1,2*", 4);
        faultAt(bench, "n1,2,3", 6);
        faultAt(bench, "n1,2,3;", 6);
        faultAt(bench, "n1,2,3*", 6);
        faultAt(bench, "r1,2,3,4,", 8);
        faultAt(bench, "k1,2,3,4**", 9);
        faultAt(bench, "k1,2,3,4*,", 9);
        faultAt(bench, "k1,2,3,4;", 9);
        faultAt(bench, "k1,2,3,4*;", 10);
        faultAt(bench, "m1,2;;", 5);
        faultAt(bench, "m1,2;m1,12345", 12);
        faultAt(bench, "m1,-2", 3);
        Checks.rules(bench, "m1,2");
        checks.same("no fault", bench.faultPosition(), -1);
        Checks.type(bench, "x");
        checks.same("a text not read yet", bench.faultPosition(), -1);
        checks.refused("a fault", IllegalArgumentException.class, bench::addRules);
        bench.undo();
        checks.same("undo leaves the fault", bench.faultPosition(), 0);
        Checks.type(bench, "b5:1");
        checks.refused("not allowed", IllegalStateException.class, bench::addRules);
        checks.same("not allowed is no fault", bench.faultPosition(), -1);
    }

    private static void faultAt(TaxWorkbench bench, String text, int position) {
        Checks.type(bench, text);
        checks.refused(text, IllegalArgumentException.class, bench::addRules);
        checks.same("fault of " + text, bench.faultPosition(), position);
    }
}
