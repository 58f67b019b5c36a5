/** The boundary cases of the promises 1 to 5 themselves: a method for each sentence. */
public final class CallEdgeTest {
    private static final int LEAST = Integer.MIN_VALUE;
    private static final int MOST = Integer.MAX_VALUE;
    private static final String TEXT = "pub p; sec a[3]; sec s; pub b[2]; fun pub one(pub n) { return n; } "
            + "p = p + 1; a[p] = s; if p < 3 { b[1] = one(p); }";

    public static void main(String[] args) {
        noTextNoProgram();
        feedTakesOneToEight();
        feedRefusesOtherNumbers();
        feedRefusesWhatIsNoCharacter();
        feedRefusesWhatIsTooLong();
        feedLeavesTheProgramAlone();
        checkEmptiesTheText();
        checkAnswersTheFaultAndItsPlace();
        checkLeavesNoProgramWithOtherFaults();
        checkForgetsInputsAndRuns();
        putNeedsAProgram();
        putRefusesWhatThereIsNot();
        runNeedsAProgram();
        runRefusesOtherFuel();
        Probe.finish();
    }

    /** An object with a program that was run, and with the beginning of a next text. */
    private static QuietChecker ready() {
        QuietChecker x = Probe.reading(TEXT);
        x.put(2, 0, 8);
        x.run(20);
        Probe.feed(x, "pub n");
        return x;
    }

    /** "QuietChecker(): No text, no program." */
    private static void noTextNoProgram() {
        QuietChecker x = new QuietChecker();
        Probe.due("length", x.count(10), 0);
        Probe.due("whether there is a program", x.count(6), 0);
        for (int what = 0; what <= 5; what++) {
            Probe.due("count(" + what + ")", x.count(what), 0);
        }
        for (int what = 7; what <= 9; what++) {
            Probe.due("count(" + what + ")", x.count(what), -1);
        }
        Probe.due("check of no text", x.check(), 0);
        Probe.due("whether there is a program behind it", x.count(6), 1);
    }

    /** "The n lowest bytes of chars, the highest of them first, are put behind the text: true" */
    private static void feedTakesOneToEight() {
        for (int n = 1; n <= 8; n++) {
            QuietChecker x = new QuietChecker();
            Probe.feed(x, "pub ");
            Probe.due("feed of " + n, x.feed(0x4142434445464748L, n), true);
            Probe.due("length", x.count(10), 4 + n);
            Probe.feed(x, ";");
            Probe.due("check", x.check(), 0);
            for (int i = 0; i < n; i++) {
                Probe.due("letter " + i + " of " + n, x.letter(0, false, i), 'A' + 8 - n + i);
            }
        }
        for (int n = 1; n <= 7; n++) {
            QuietChecker x = new QuietChecker();
            long rest = -1L << 8 * n;
            Probe.due("feed of " + n + " below what is no text", x.feed(rest | 0x4142434445464748L & ~rest, n), true);
            Probe.due("length", x.count(10), n);
        }
        Probe.due("feed of LEAST's lowest byte", new QuietChecker().feed(Long.MIN_VALUE | ' ', 1), true);
    }

    /** "false, and nothing, when n is not 1 .. 8" */
    private static void feedRefusesOtherNumbers() {
        QuietChecker x = ready();
        String before = Probe.state(x);
        for (int n : new int[] {0, -1, -8, 9, 10, 16, 64, 256, 257, LEAST, LEAST + 1, MOST}) {
            Probe.due("feed with n = " + n, x.feed(0x4142434445464748L, n), false);
        }
        Probe.dueState("refused feeds", x, before);
    }

    /** "one is no character of a text" */
    private static void feedRefusesWhatIsNoCharacter() {
        QuietChecker x = ready();
        String before = Probe.state(x);
        for (int wrong : new int[] {0, 9, 11, 13, 31, 127, 128, 255}) {
            for (int at = 0; at < 8; at++) {
                long chars = 0x4142434445464748L & ~(255L << 8 * at) | (long) wrong << 8 * at;
                Probe.due("feed of " + wrong + " at " + at, x.feed(chars, 8), false);
                Probe.due("feed of " + wrong + " as the first", x.feed(chars, at + 1), false);
            }
        }
        Probe.dueState("refused feeds", x, before);
        Probe.due("feed of nothing but 0", x.feed(0, 8), false);
        Probe.due("feed of -1", x.feed(-1, 8), false);
    }

    /** "or it would be too long" */
    private static void feedRefusesWhatIsTooLong() {
        for (int left = 0; left <= 8; left++) {
            QuietChecker x = new QuietChecker();
            Probe.feed(x, Probe.repeated("#", 3000 - left));
            for (int n = left + 1; n <= 8; n++) {
                Probe.due("feed of " + n + " with room for " + left, x.feed(0x4142434445464748L, n), false);
                Probe.due("length", x.count(10), 3000 - left);
            }
            if (left > 0) {
                Probe.due("feed of what there is room for", x.feed(0x4142434445464748L, left), true);
            }
            Probe.due("length", x.count(10), 3000);
            Probe.due("check", x.check(), 0);
            Probe.due("feed behind check", x.feed(0x4142434445464748L, 8), true);
            Probe.due("length", x.count(10), 8);
        }
    }

    /** "are put behind the text": all else stays until check() */
    private static void feedLeavesTheProgramAlone() {
        QuietChecker x = ready();
        int twin = x.twin(3);
        Probe.due("feed", x.feed(' ', 1), true);
        Probe.due("length", x.count(10), 6);
        Probe.due("letter", x.letter(1, false, 0), 'a');
        Probe.due("twin", x.twin(3), twin);
        Probe.due("run", x.run(20), 0);
        Probe.due("value", x.value(3, 1), 1);
    }

    /** "The text is read, and is empty then" */
    private static void checkEmptiesTheText() {
        for (String text : new String[] {"", "skip;", "$", "y = 1;", "sec s; if s { }"}) {
            QuietChecker x = new QuietChecker();
            Probe.feed(x, text);
            Probe.due("length", x.count(10), text.length());
            x.check();
            Probe.due("length behind check", x.count(10), 0);
            Probe.due("check of nothing", x.check(), 0);
            Probe.due("fault of nothing", x.count(5), 0);
        }
    }

    /** "0, or the fault + 16 * its place" */
    private static void checkAnswersTheFaultAndItsPlace() {
        QuietChecker x = new QuietChecker();
        String[] texts = {"$", "y = 1;", " \n;", "sec s;if s{}", "pub"};
        int[] due = {1, 2, 1 + 16 * 2, 6 + 16 * 6, 1 + 16 * 3};
        for (int k = 0; k < texts.length; k++) {
            Probe.feed(x, texts[k]);
            Probe.due("check of " + texts[k], x.check(), due[k]);
            Probe.due("fault of " + texts[k], x.count(5), due[k] % 16);
        }
        Probe.feed(x, Probe.repeated(" ", 2998) + "if");
        Probe.due("check of the end of the longest text", x.check(), 1 + 16 * 3000);
    }

    /** "A program with faults 6 .. 9 can be run, too; with others there is none." */
    private static void checkLeavesNoProgramWithOtherFaults() {
        String deep = Probe.repeated("if 1 {", 11);
        String[] texts = {"pub x; $", "pub x; y = 1;", "pub x; pub x;", "pub x; " + deep,
            "pub x; fun pub f() { return 1; } x = f(1);", "sec s; if s { }", "sec s[2]; s[s[0]] = 1;",
            "pub p; sec s; p = s;", "sec s; s = 1 / (s | 1);"};
        for (int k = 0; k < texts.length; k++) {
            QuietChecker x = ready();
            x.check();
            Probe.feed(x, TEXT);
            Probe.due("check", x.check(), 0);
            x.run(20);
            Probe.feed(x, texts[k]);
            Probe.due("fault of " + texts[k], x.check() % 16, k + 1);
            if (k + 1 >= 6) {
                Probe.due("whether there is a program", x.count(6), 1);
                Probe.due("run of " + texts[k], x.run(20), 0);
            } else {
                dueNoProgram(x);
            }
        }
    }

    private static void dueNoProgram(QuietChecker x) {
        for (int what : new int[] {0, 1, 2, 3, 4, 6, 10}) {
            Probe.due("count(" + what + ") without a program", x.count(what), 0);
        }
        for (int what = 7; what <= 9; what++) {
            Probe.due("count(" + what + ") without a program", x.count(what), -1);
        }
        Probe.throwsState("put", () -> x.put(0, 0, 1));
        Probe.throwsState("run", () -> x.run(1));
        Probe.throwsState("twin", () -> x.twin(1));
        Probe.throwsState("value", () -> x.value(0, 0));
        Probe.throwsState("note", () -> x.note(0));
        Probe.throwsIndex("letter", () -> x.letter(0, false, 0));
        Probe.throwsIndex("letter", () -> x.letter(0, true, 0));
    }

    /** "All inputs are 0, nothing was run." */
    private static void checkForgetsInputsAndRuns() {
        QuietChecker x = new QuietChecker();
        for (int round = 0; round < 3; round++) {
            Probe.feed(x, TEXT);
            x.check();
            for (int what = 7; what <= 9; what++) {
                Probe.due("count(" + what + ") behind check", x.count(what), -1);
            }
            Probe.throwsState("twin", () -> x.twin(1));
            Probe.throwsState("value", () -> x.value(0, 0));
            Probe.throwsState("note", () -> x.note(0));
            x.run(0);
            Probe.due("p", x.value(0, 0), 0);
            Probe.due("a[2]", x.value(1, 2), 0);
            Probe.due("s", x.value(2, 0), 0);
            Probe.due("b[1]", x.value(3, 1), 0);
            x.put(0, 0, 11);
            x.put(1, 2, 12);
            x.put(2, 0, 13);
            x.put(3, 1, 14);
        }
    }

    /** "put: IllegalStateException without a program" */
    private static void putNeedsAProgram() {
        QuietChecker x = new QuietChecker();
        int[][] any = {{0, 0}, {-1, 0}, {0, -1}, {40, 64}, {LEAST, LEAST}, {MOST, MOST}};
        for (int[] one : any) {
            Probe.throwsState("put without a program", () -> x.put(one[0], one[1], 1));
        }
        Probe.feed(x, "pub x;");
        Probe.throwsState("put before check", () -> x.put(0, 0, 1));
        x.check();
        x.put(0, 0, 1);
        Probe.feed(x, "pub x");
        x.put(0, 0, 2);
        x.check();
        Probe.throwsState("put behind a fault", () -> x.put(0, 0, 1));
    }

    /** "else IndexOutOfBoundsException when there is none such" */
    private static void putRefusesWhatThereIsNot() {
        QuietChecker x = ready();
        String before = Probe.state(x);
        int[][] wrong = {{-1, 0}, {4, 0}, {40, 0}, {LEAST, 0}, {MOST, 0}, {0, 1}, {0, -1}, {0, 64}, {0, -64}, {1, 3},
            {1, -1}, {1, 64}, {2, 1}, {3, 2}, {3, -1}, {1, LEAST}, {1, MOST}, {67108864, 0}, {-1, 64}, {4, -64}};
        for (int[] one : wrong) {
            Probe.throwsIndex("put(" + one[0] + ", " + one[1] + ")", () -> x.put(one[0], one[1], 77));
        }
        Probe.dueState("refused puts", x, before);
        x.run(20);
        Probe.dueState("refused puts and a run", x, before);
        QuietChecker none = Probe.reading("skip;");
        Probe.throwsIndex("put without a declaration", () -> none.put(0, 0, 1));
        QuietChecker edges = Probe.reading("pub p; sec a[3]; sec s; pub b[64];");
        int[][] fine = {{0, 0, LEAST}, {1, 0, MOST}, {1, 2, -1}, {2, 0, 0}, {3, 63, 1}};
        for (int[] one : fine) {
            edges.put(one[0], one[1], one[2]);
        }
        edges.run(0);
        for (int[] one : fine) {
            Probe.due("value of an input", edges.value(one[0], one[1]), one[2]);
        }
    }

    /** "run: IllegalStateException without a program" */
    private static void runNeedsAProgram() {
        QuietChecker x = new QuietChecker();
        for (int fuel : new int[] {0, 1, 20000, -1, 20001, LEAST, MOST}) {
            Probe.throwsState("run(" + fuel + ") of a new object", () -> x.run(fuel));
        }
        Probe.feed(x, "pub x; x = 1");
        x.check();
        for (int fuel : new int[] {0, 1, 20000, -1, 20001, LEAST, MOST}) {
            Probe.throwsState("run(" + fuel + ") behind a fault", () -> x.run(fuel));
        }
    }

    /** "else IllegalArgumentException when fuel is not 0 .. 20000" */
    private static void runRefusesOtherFuel() {
        QuietChecker x = ready();
        String before = Probe.state(x);
        for (int fuel : new int[] {-1, -2, 20001, 20002, 40000, LEAST, MOST}) {
            Probe.throwsArgument("run(" + fuel + ")", () -> x.run(fuel));
        }
        Probe.dueState("refused runs", x, before);
        Probe.due("run(20000)", x.run(20000), 0);
        Probe.due("run(0)", x.run(0), 1);
        QuietChecker unrun = Probe.reading(TEXT);
        Probe.throwsArgument("run(-1)", () -> unrun.run(-1));
        Probe.due("count(9) behind a refused run", unrun.count(9), -1);
        Probe.throwsState("value behind a refused run", () -> unrun.value(0, 0));
    }
}
