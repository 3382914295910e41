/** Promises 1 to 4, the paragraph Texts, and what Amounts and Details say of texts. */
final class TextEdges {
    private static final Class<IllegalArgumentException> ARGUMENT = IllegalArgumentException.class;
    private static final Class<IllegalStateException> STATE = IllegalStateException.class;
    private static final int LOWEST = 33;
    private static final int HIGHEST = 126;
    private static final String LETTERS = "abckmnr";
    private static final String DIGITS = "0123456789";
    /** Seven credits, in fewer characters than a text can have. */
    private static final String SEVEN_CREDITS =
            "n0,0,0,0;r0,0,0,0;k0,0,0,0;n0,0,0,0*;r0,0,0,0*;k0,0,0,0*;n1,0,0,0";
    private static final String SIX_CREDITS = SEVEN_CREDITS.substring(0, SEVEN_CREDITS.lastIndexOf(';'));

    private final Sentences s;

    TextEdges(Sentences sentences) {
        s = sentences;
    }

    void all() {
        s.promise(1);
        s.test("Creates a workbench without taxes.", this::withoutTaxes);
        appending();
        reading();
        faultPositions();
        texts();
        items();
        s.in("Amounts");
        s.test("thresholds and amounts of rules are whole units from 0 to 9999", this::amounts);
        s.test("rates are thousandths from 0 to 999", this::rates);
        details();
    }

    private void withoutTaxes() {
        TaxWorkbench bench = new TaxWorkbench();
        for (int i = 0; i < 6; i++) {
            s.same("tax of " + i, bench.tax(i), 0);
            bench.setPerson(i, 9999, 9999, 9);
            s.same("tax of " + i + " on the greatest income", bench.tax(i), 0);
        }
        bench.marry(0, 1);
        s.same("joint tax", bench.jointTax(0), 0);
        s.same("total", bench.totalTax(), 0);
        s.same("brackets", bench.bracketCount(), 1);
        s.same("charges", bench.chargeCount(), 0);
        s.same("credits", bench.creditCount(), 0);
        s.same("years", bench.years(), 0);
    }

    private void appending() {
        s.promise(2);
        s.test("`character`: the character code, 33 to 126", () -> {
            for (int code = LOWEST; code <= HIGHEST; code++) {
                s.same("" + code, new TaxWorkbench().appendCharacter(code), 1);
            }
            for (int code = 0; code < LOWEST; code++) {
                refusedCode(code);
            }
            for (int code = HIGHEST + 1; code <= 512; code++) {
                refusedCode(code);
            }
        });
        s.test("Returns the new length of the text.", () -> {
            TaxWorkbench bench = new TaxWorkbench();
            for (int i = 1; i <= 80; i++) {
                s.same("character " + i, bench.appendCharacter('0'), i);
            }
            Checks.outcome(bench::addRules);
            s.same("the first one again", bench.appendCharacter('0'), 1);
        });
        s.test("Throws `IllegalArgumentException` if character is not from 33 to 126",
                () -> s.refusesOutside(LOWEST, HIGHEST, ARGUMENT, (bench, code) -> bench.appendCharacter(code)));
        s.test("Throws `IllegalStateException` if the text has 80 characters", () -> {
            TaxWorkbench bench = Benches.used();
            Checks.type(bench, Benches.FULL_TEXT.substring(1));
            s.same("to 79", bench.appendCharacter('0'), 80);
            for (int code : new int[] {LOWEST, '0', ';', HIGHEST}) {
                s.refuses(code + " to 80", STATE, Benches::written, full -> full.appendCharacter(code));
            }
        });
    }

    private void refusedCode(int code) {
        s.same("" + code, Checks.outcome(() -> new TaxWorkbench().appendCharacter(code)), ARGUMENT.getName());
    }

    private void reading() {
        s.promise(3);
        s.test("Reads the text as a rule text, empties it, and carries out its items.", () -> {
            TaxWorkbench bench = new TaxWorkbench();
            Checks.rules(bench, "m1,2;c3,4");
            s.same("the first item", bench.allowance(3), 1);
            s.same("the last item", bench.charge(0, 1), 4);
            s.same("the text", bench.appendCharacter('m'), 1);
        });
        s.test("The text is emptied also if an exception is thrown.", () -> {
            emptied("m1,", "2", ARGUMENT);
            emptied("m1,1000", ";m1,2", STATE);
            emptied(Benches.FULL_TEXT.substring(1) + ";", "0", ARGUMENT);
        });
        s.test("Returns the number of items.", () -> {
            s.taken("a1,2,3", 1);
            s.taken("c1,2;c1,2", 2);
            s.taken("b0:1,2:3,4:5", 1);
            s.taken("b0:1;b0:2;b0:3", 3);
            s.taken(Benches.FULL_TEXT, 16);
        });
        s.test("Throws `IllegalArgumentException` if the text has a fault", () -> {
            s.faulty("", 0);
            s.faulty("m1,2;c1,2;", 10);
            s.faulty("m1,2;c1,2x", 9);
            s.faulty(Benches.FULL_TEXT.substring(0, 79) + "x", 79);
            s.taken("m1,2;c1,2", 2);
        });
        s.test("Throws `IllegalStateException` if an item is not allowed", () -> {
            s.taken("m1,999;c1,2", 2);
            s.notAllowed("m1,1000;c1,2");
            s.notAllowed("c1,2;m1,1000");
        });
    }

    /** What was typed before does not stand ahead of what is typed behind the refusal. */
    private void emptied(String text, String behind, Class<? extends RuntimeException> due) {
        TaxWorkbench bench = new TaxWorkbench();
        Checks.type(bench, text);
        s.same(text, Checks.outcome(bench::addRules), due.getName());
        s.same(text + ": the text's length", bench.appendCharacter(behind.charAt(0)), 1);
        Checks.type(bench, behind.substring(1));
        s.same(text + ": what was typed behind it", Checks.outcome(bench::addRules), ARGUMENT.getName());
        s.same(text + ": its fault", bench.faultPosition(), 0);
    }

    private void faultPositions() {
        s.promise(4);
        s.test("Returns the fault position of the text that was read by the latest call of addRules.", () -> {
            TaxWorkbench bench = new TaxWorkbench();
            readsTo(bench, "m1x", 2);
            readsTo(bench, "m1,2x", 4);
            Checks.type(bench, "x");
            s.same("a text that was not read yet", bench.faultPosition(), 4);
            bench.save();
            bench.restore();
            bench.undo();
            bench.clearRules();
            s.same("behind other changes", bench.faultPosition(), 4);
            readsTo(bench, "", 0);
        });
        s.test("or -1 if the text had no fault or addRules has not been called.", () -> {
            TaxWorkbench bench = new TaxWorkbench();
            s.same("not called", bench.faultPosition(), -1);
            Checks.type(bench, "x");
            s.same("not called for a text with a fault", bench.faultPosition(), -1);
            readsTo(bench, "", 0);
            readsTo(bench, "m1,2", -1);
            readsTo(bench, "m1,2;", 5);
            readsTo(bench, "m1,1000", -1);
            readsTo(bench, Benches.FULL_TEXT.substring(0, 79) + ",", 79);
            readsTo(bench, Benches.FULL_TEXT, -1);
            readsTo(bench, Benches.FULL_TEXT.substring(1) + ";", 0);
        });
    }

    private void readsTo(TaxWorkbench bench, String text, int fault) {
        Checks.type(bench, text);
        Checks.outcome(bench::addRules);
        s.same("fault of " + text, bench.faultPosition(), fault);
    }

    private void texts() {
        s.in("Texts");
        s.test("There is a text of at most 80 characters, which is empty at first.", () -> {
            TaxWorkbench bench = new TaxWorkbench();
            readsTo(bench, "", 0);
            s.same("the first character", new TaxWorkbench().appendCharacter('m'), 1);
            Checks.type(bench, Benches.FULL_TEXT);
            s.same("the 81st character", Checks.outcome(() -> bench.appendCharacter('0')), STATE.getName());
            s.same("the 80 characters", bench.addRules(), 16);
        });
        s.test("A rule text consists of one or more items with a \";\" between two of them.", () -> {
            s.faulty("", 0);
            s.taken("m1,2", 1);
            s.taken("m1,2;m1,2", 2);
            s.faulty(";", 0);
            s.faulty(";m1,2", 0);
            s.faulty("m1,2;", 5);
            s.faulty("m1,2;;m1,2", 5);
            s.faulty("m1,2m1,2", 4);
            s.faulty("m1,2,m1,2", 4);
        });
        s.test("A number is 1 to 4 digits.", this::numbers);
        s.test("index of the first character that cannot continue a rule text", this::continuations);
        s.test("it is the length of the text if the text ends too early", this::endsTooEarly);
        s.test("because a rate is above 999", () -> nothingTaken("b0:1000", "b0:999"));
        s.test("the brackets are not as told", () -> nothingTaken("b0:1,1:2,1:3", "b0:1,1:2,2:3"));
        s.test("there are too many brackets,", () -> nothingTaken("b0:1,1:1,2:1,3:1,4:1,5:1,6:1",
                "b0:1,1:1,2:1,3:1,4:1,5:1"));
        s.test("brackets, charges or credits then, nothing of the text is taken", () -> {
            nothingTaken("c1,1;c1,1;c1,1;c1,1;c1,1", "c1,1;c1,1;c1,1;c1,1");
            nothingTaken(SEVEN_CREDITS, SIX_CREDITS);
        });
    }

    /** Neither what stands ahead of the item that is not allowed nor what stands behind it. */
    private void nothingTaken(String text, String allowed) {
        s.refusesText(text, STATE, -1);
        s.refusesText("m1,2;" + text, STATE, -1);
        s.refusesText(text + ";m1,2", STATE, -1);
        s.refusesText(text, STATE, -1, TaxWorkbench::new);
        s.same(allowed, Checks.outcome(() -> Checks.with(allowed).faultPosition()), -1);
    }

    /** Each number of each kind of item, with no digit, with as many as can be, and with one more. */
    private void numbers() {
        String[] items = {"b0:#", "b#:1", "b0:1,#:1", "b0:1,1:#", "a#,1,1", "a1,#,1", "a1,1,#", "m#,1", "m1,#",
            "c#,1", "c1,#", "n#,1,1,1", "r1,#,1,1", "k1,1,#,1", "n1,1,1,#", "r#,1,1,1*", "k1,1,1,#*"};
        for (String item : items) {
            int place = item.indexOf('#');
            String digit = item.startsWith("b#") ? "0" : "1";
            s.faulty(item.replace("#", ""), place);
            s.taken(item.replace("#", digit), 1);
            s.taken(item.replace("#", "0" + digit), 1);
            s.taken(item.replace("#", "00" + digit), 1);
            s.taken(item.replace("#", "000" + digit), 1);
            s.faulty(item.replace("#", "0000" + digit), place + 4);
        }
    }

    private void continuations() {
        continued("b0:1,2:3;m", LETTERS, DIGITS, DIGITS + ":", DIGITS, DIGITS + ",;", DIGITS, DIGITS + ":",
                DIGITS, DIGITS + ",;", LETTERS, DIGITS);
        continued("b1234:5678,", LETTERS, DIGITS, DIGITS + ":", DIGITS + ":", DIGITS + ":", ":", DIGITS,
                DIGITS + ",;", DIGITS + ",;", DIGITS + ",;", ",;", DIGITS);
        continued("a1,2,3;", LETTERS, DIGITS, DIGITS + ",", DIGITS, DIGITS + ",", DIGITS, DIGITS + ";", LETTERS);
        for (String letter : new String[] {"m", "c"}) {
            continued(letter + "1234,567;", LETTERS, DIGITS, DIGITS + ",", DIGITS + ",", DIGITS + ",", ",",
                    DIGITS, DIGITS + ";", DIGITS + ";", DIGITS + ";", LETTERS);
        }
        for (String letter : new String[] {"n", "r", "k"}) {
            continued(letter + "1,2,3,4*;c", LETTERS, DIGITS, DIGITS + ",", DIGITS, DIGITS + ",", DIGITS,
                    DIGITS + ",", DIGITS, DIGITS + ";*", ";", LETTERS, DIGITS);
            continued(letter + "1,2,3,4567;", LETTERS, DIGITS, DIGITS + ",", DIGITS, DIGITS + ",", DIGITS,
                    DIGITS + ",", DIGITS, DIGITS + ";*", DIGITS + ";*", DIGITS + ";*", ";*", LETTERS);
        }
    }

    /** For each place of the text, every character that can stand there, and none else. */
    private void continued(String text, String... allowed) {
        for (int place = 0; place <= text.length(); place++) {
            for (char next = LOWEST; next <= HIGHEST; next++) {
                String start = text.substring(0, place) + next;
                TaxWorkbench bench = new TaxWorkbench();
                Checks.type(bench, start);
                Checks.outcome(bench::addRules);
                boolean faulty = allowed[place].indexOf(next) < 0;
                s.same(start + " has its fault at " + place, bench.faultPosition() == place, faulty);
            }
        }
    }

    private void endsTooEarly() {
        early("b0:1,2:3;b0:4", 4, 8, 13);
        early("a1,2,3;a4,5,6", 6, 13);
        early("m1,2;c3,4;m5,67", 4, 9, 14, 15);
        early("n1,2,3,4;r5,6,7,8*;k9,0,1,2*", 8, 17, 18, 27, 28);
        String tooEarly = Benches.FULL_TEXT.substring(1, 80) + ";";
        s.faulty(Benches.FULL_TEXT.substring(0, 79) + ";", 80);
        s.faulty(tooEarly, 0);
    }

    /** The text, cut behind each of its characters, ends too early but at these lengths. */
    private void early(String text, int... whole) {
        for (int length = 0; length <= text.length(); length++) {
            boolean ends = false;
            for (int one : whole) {
                ends |= one == length;
            }
            TaxWorkbench bench = new TaxWorkbench();
            readsTo(bench, text.substring(0, length), ends ? -1 : length);
        }
    }

    private void items() {
        s.in("Texts");
        s.test("An item is \"b\" and one or more pairs, with a \",\" between two of them", () -> {
            s.faulty("b", 1);
            s.taken("b0:1", 1);
            s.taken("b0:1,2:3", 1);
            s.faulty("b,0:1", 1);
            s.faulty("b0:1,", 5);
            s.faulty("b0:1,,2:3", 5);
            s.faulty("b0:1 2:3".replace(' ', ':'), 4);
        });
        s.test("a pair being a number, \":\" and a number", () -> {
            s.faulty("b0", 2);
            s.faulty("b0,1", 2);
            s.faulty("b0:", 3);
            s.faulty("b:1", 1);
            s.faulty("b0:1:2", 4);
            s.faulty("b0:1,2", 6);
            s.faulty("b0:1,2;m1,2", 6);
        });
        s.test("\"a\" and three numbers with a \",\" between two of them", () -> {
            counted("a", 3);
            Object[] due = {12, 345, 678};
            TaxWorkbench bench = Checks.with("a12,345,678");
            for (int i = 0; i < 3; i++) {
                s.same("number " + i, bench.allowance(i), due[i]);
            }
            s.faulty("a1,2,3*", 6);
        });
        s.test("\"m\" and two such numbers for the exempt income and the rate", () -> {
            counted("m", 2);
            TaxWorkbench bench = Checks.with("m1234,567");
            s.same("exempt income", bench.allowance(3), 1234);
            s.same("rate", bench.allowance(4), 567);
            s.faulty("m1,2*", 4);
        });
        s.test("\"c\" and two for threshold and amount of a further charge", () -> {
            counted("c", 2);
            TaxWorkbench bench = Checks.with("c1234,5678;c9,8");
            s.same("threshold", bench.charge(0, 0), 1234);
            s.same("amount", bench.charge(0, 1), 5678);
            s.same("a further one", bench.charge(1, 0), 9);
            s.faulty("c1,2*", 4);
        });
        s.test("\"n\", \"r\" or \"k\" and four for amount, phase-in, start and phase-out", () -> {
            counted("n", 4);
            counted("r", 4);
            counted("k", 4);
        });
        s.test("of a further credit of the kind 0, 1 or 2, possibly followed by \"*\"", this::creditItems);
    }

    /** With so many numbers the item is taken, with one fewer or more it is not. */
    private void counted(String letter, int numbers) {
        String item = letter + "1" + ",1".repeat(numbers - 1);
        s.faulty(letter, 1);
        s.faulty(item.substring(0, item.length() - 2), item.length() - 2);
        s.faulty(item.substring(0, item.length() - 1), item.length() - 1);
        s.faulty(item.substring(0, item.length() - 2) + ";" + item, item.length() - 2);
        s.taken(item, 1);
        s.taken(item + ";" + item, 2);
        s.faulty(item + ",1", item.length());
        s.faulty(item.replaceFirst(",", ":"), 2);
    }

    private void creditItems() {
        String letters = "nrk";
        for (int kind = 0; kind < 3; kind++) {
            String item = letters.charAt(kind) + "1234,567,8901,234";
            TaxWorkbench bench = Checks.with(item + ";" + item + "*");
            int[] due = {kind, 1234, 567, 8901, 234};
            for (int i = 0; i < 5; i++) {
                s.same(item + " part " + i, bench.credit(0, i), due[i]);
                s.same(item + "* part " + i, bench.credit(1, i), due[i]);
            }
            s.same(item + " for each", bench.credit(0, 5), 0);
            s.same(item + "* for each", bench.credit(1, 5), 1);
            s.faulty(item + "**", item.length() + 1);
            s.faulty("*" + item, 0);
        }
    }

    /** Every number of an item that is no rate: the least and the greatest one; 10000 is no number. */
    private void amounts() {
        Object[][] places = {{"b0:1,#:1", 1}, {"a#,1,1", 0}, {"a1,#,1", 0}, {"m#,1", 0}, {"c#,1", 0}, {"c1,#", 0},
            {"n#,1,1,1", 0}, {"r#,1,1,1", 0}, {"k#,1,1,1*", 0}, {"n1,1,#,1", 0}, {"r1,1,#,1", 0}, {"k1,1,#,1", 0}};
        for (Object[] place : places) {
            String item = (String) place[0];
            s.taken(item.replace("#", "" + place[1]), 1);
            s.taken(item.replace("#", "9999"), 1);
            s.faulty(item.replace("#", "10000"), item.indexOf('#') + 4);
            s.faulty(item.replace("#", "-1"), item.indexOf('#'));
        }
        TaxWorkbench bench = Checks.with("b0:0,9999:1;a9999,9999,0;m9999,0;c9999,9999;c0,0;k9999,0,9999,0");
        Object[] got = {bench.bracket(1, 0), bench.allowance(0), bench.allowance(1), bench.allowance(3),
            bench.charge(0, 0), bench.charge(0, 1), bench.credit(0, 1), bench.credit(0, 3)};
        for (int i = 0; i < got.length; i++) {
            s.same("the greatest one " + i, got[i], 9999);
        }
        s.same("the least threshold", bench.charge(1, 0), 0);
        s.same("the least amount", bench.charge(1, 1), 0);
    }

    private void rates() {
        String[] places = {"b0:#", "b0:1,1:#", "b0:1,1:2,2:3,3:4,4:5,5:#", "a1,1,#", "m1,#", "n1,#,1,1", "n1,1,1,#",
            "r1,#,1,1", "r1,1,1,#", "k1,#,1,1", "k1,1,1,#*"};
        for (String item : places) {
            s.taken(item.replace("#", "0"), 1);
            s.taken(item.replace("#", "999"), 1);
            s.notAllowed(item.replace("#", "1000"));
            s.notAllowed(item.replace("#", "9999"));
            s.faulty(item.replace("#", "10000"), item.indexOf('#') + 4);
        }
        TaxWorkbench bench = Checks.with("b0:999;a0,0,999;m0,999;k0,999,0,999");
        Object[] got = {bench.bracket(0, 1), bench.allowance(2), bench.allowance(4), bench.credit(0, 2),
            bench.credit(0, 4)};
        for (int i = 0; i < got.length; i++) {
            s.same("the greatest rate " + i, got[i], 999);
        }
    }

    private void details() {
        s.in("Details");
        s.test("If a text tells brackets twice, the later ones count", () -> {
            TaxWorkbench bench = Checks.with("b0:1,2:3,4:5;b0:6,7:8");
            s.same("brackets", bench.bracketCount(), 2);
            s.same("threshold", bench.bracket(1, 0), 7);
            s.same("rate", bench.bracket(0, 1), 6);
            s.notAllowed("b0:1;b1:1");
            s.notAllowed("b0:1;b0:1000");
        });
        s.test("but the earlier ones have to be allowed, too", () -> {
            s.notAllowed("b1:1;b0:1");
            s.notAllowed("b0:1000;b0:1");
            s.notAllowed("b0:1,0:2;b0:1");
            s.notAllowed("b0:1,1:1,2:1,3:1,4:1,5:1,6:1;b0:1");
            s.taken("b0:1,1:1,2:1,3:1,4:1,5:1;b0:1", 2);
            s.taken("b0:999;b0:1", 2);
        });
        s.test("More than 6 brackets are not a fault, but not allowed.", () -> {
            s.taken("b0:1,1:1,2:1,3:1,4:1,5:1", 1);
            s.notAllowed("b0:1,1:1,2:1,3:1,4:1,5:1,6:1");
            s.notAllowed("b0:1" + ",2:1".repeat(19));
            s.notAllowed("b0:0,1:0,2:0,3:0,4:0,5:0,6:0,7:0,8:0,9:0,10:0,11:0,12:0,13:0,14:0,15:0,16:0,17:0");
            s.faulty("b0:1,1:1,2:1,3:1,4:1,5:1,6:1,", 29);
        });
        s.test("Numbers in texts can have zeros at their beginning.", () -> {
            TaxWorkbench bench = Checks.with("b0000:0009,0001:0099;c0010,0100;n0,00,000,0000");
            Object[] got = {bench.bracket(0, 0), bench.bracket(0, 1), bench.bracket(1, 0), bench.bracket(1, 1),
                bench.charge(0, 0), bench.charge(0, 1)};
            Object[] due = {0, 9, 1, 99, 10, 100};
            for (int i = 0; i < due.length; i++) {
                s.same("number " + i, got[i], due[i]);
            }
            s.same("zeros alone", bench.credit(0, 4), 0);
            s.taken("m0999,0999", 1);
            s.faulty("m00999,0999", 5);
        });
        s.test("An empty text has its fault at 0.", () -> {
            s.faulty("", 0);
            s.refusesText("", ARGUMENT, 0, TaxWorkbench::new);
            TaxWorkbench bench = Checks.with("m1,2");
            s.same("not empty", bench.faultPosition(), -1);
            readsTo(bench, "", 0);
        });
    }
}
