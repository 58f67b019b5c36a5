/** The boundary cases of the promises 6 to 10, which ask for what a run left: a method for each sentence. */
public final class AnswerEdgeTest {
    private static final int LEAST = Integer.MIN_VALUE;
    private static final int MOST = Integer.MAX_VALUE;
    private static final String TEXT = "pub p; sec a[3]; sec s; pub b[2]; fun pub one(pub n) { return n; } "
            + "p = p + 1; a[p] = s; if p < 3 { b[1] = one(p); }";

    public static void main(String[] args) {
        twinTakesFuelAndInputsOfTheRun();
        twinCountsCellsOfSecrets();
        twinTellsTheFirstOtherNote();
        twinTellsANoteOfOneAlone();
        twinTellsOtherEndsOrSteps();
        twinTellsNone();
        twinLeavesTheRun();
        twinNeedsARun();
        valueNeedsARun();
        valueRefusesWhatThereIsNot();
        noteNeedsARun();
        noteRefusesWhatThereIsNot();
        letterRefusesWhatThereIsNot();
        countsOfTheProgram();
        countsOfTheRun();
        countOfTheText();
        noneForOthers();
        calls512();
        Probe.finish();
    }

    /** "Runs it again, with the fuel and the inputs that it had" */
    private static void twinTakesFuelAndInputsOfTheRun() {
        QuietChecker x = Probe.reading("sec s; pub p; pub i; while i < p { i = i + 1; } if s == 12 { } ");
        x.put(0, 0, 9);
        x.put(1, 0, 2);
        x.run(6);
        Probe.due("twin that ends as the run did", x.twin(5), 3);
        x.put(0, 0, 12);
        x.put(1, 0, 0);
        Probe.due("twin with the inputs of the run", x.twin(5), 3);
        Probe.due("twin with the inputs of the run", x.twin(1), -1);
        x.run(0);
        Probe.due("twin without fuel", x.twin(1), -1);
        x.run(2);
        Probe.due("twin of the run behind it", x.twin(1), 1);
        x.put(0, 0, 9);
        x.run(1);
        Probe.due("twin with the fuel of the run", x.twin(5), -1);
    }

    /** "each secret input xor a number: seed * (2 * j + 1), j counting the cells of secret declarations" */
    private static void twinCountsCellsOfSecrets() {
        StringBuilder text = new StringBuilder();
        for (int k = 0; k < 40; k++) {
            text.append(k % 3 == 1 ? "pub" : "sec").append(" v").append(k).append(k % 4 == 3 ? ";" : "[64];");
        }
        text.append("if ");
        int j = 0;
        for (int k = 0; k < 40; k++) {
            int cells = k % 4 == 3 ? 1 : 64;
            if (k % 3 != 1) {
                dueSecret(text.toString(), k, cells == 1 ? "" : "[0]", 0, j);
                dueSecret(text.toString(), k, cells == 1 ? "" : "[63]", cells - 1, j + cells - 1);
                j += cells;
            } else {
                dueUntouched(text.toString(), k, cells == 1 ? "" : "[63]", cells - 1);
            }
        }
    }

    private static void dueSecret(String start, int k, String index, int i, int j) {
        QuietChecker x = Probe.reading(start + "v" + k + index + " == 77 { }");
        for (int seed : new int[] {1, -1, 0x12345679, MOST, LEAST}) {
            x.put(k, i, 77 ^ seed * (2 * j + 1));
            x.run(1);
            int last = x.count(7) - 1;
            Probe.due("note of secret cell " + j, x.note(last) & 1, 0);
            Probe.due("twin of secret cell " + j + ", seed " + seed, x.twin(seed), last);
            Probe.due("twin of secret cell " + j + ", seed 0", x.twin(0), -1);
        }
    }

    private static void dueUntouched(String start, int k, String index, int i) {
        QuietChecker x = Probe.reading(start + "v" + k + index + " == 77 { }");
        x.put(k, i, 77);
        x.run(1);
        Probe.due("twin that asks something public", x.twin(0x12345679), -1);
    }

    /** "the first note, by its number, that is another one than in the latest run()" */
    private static void twinTellsTheFirstOtherNote() {
        String[] texts = {"if s { }", "skip; if 1 { } while s { s = 0; }", "a[s & 1] = 1; a[s & 1] = 2;",
            "a[0] = 1; a[1] = 1; if s { }"};
        int[] due = {0, 1, 0, 2};
        for (int k = 0; k < texts.length; k++) {
            Probe.due("twin of " + texts[k], Probe.running("sec s; pub a[2]; " + texts[k]).twin(1), due[k]);
        }
        QuietChecker last = Probe.running("sec s; pub i; while i < 3998 { i = i + 1; } if s { } if 1 { }");
        Probe.due("end", last.count(9), 4);
        Probe.due("twin with another note 3999", last.twin(1), 3999);
    }

    /** "(or is there in one of both alone)" */
    private static void twinTellsANoteOfOneAlone() {
        String text = "sec s; pub a[3]; a[0] = 1; s = 1 / s; a[1] = 1; a[2] = 1;";
        QuietChecker x = Probe.reading(text);
        x.run(9);
        Probe.due("a note in the twin alone", x.twin(1), 1);
        x.put(0, 0, 1);
        x.run(9);
        Probe.due("a note in the run alone", x.twin(1), 1);
        QuietChecker none = Probe.reading("sec s; s = 1 / s; if 1 { }");
        none.run(9);
        Probe.due("the first note in the twin alone", none.twin(1), 0);
        String many = "sec s; pub i; while i < 3998 { i = i + 1; } s = 1 / s; if 1 { }";
        QuietChecker last = Probe.running(many);
        Probe.due("notes", last.count(7), 3999);
        Probe.due("note 3999 in the twin alone", last.twin(1), 3999);
    }

    /** "-2 when only the end, or the steps, are others" */
    private static void twinTellsOtherEndsOrSteps() {
        QuietChecker end = Probe.reading("sec s; s = 1 / s;");
        end.run(9);
        Probe.due("another end", end.twin(1), -2);
        end.put(0, 0, 1);
        end.run(9);
        Probe.due("another end", end.twin(1), -2);
        QuietChecker steps = Probe.reading("sec s; fun sec f() { return 1 / 0; } s = 1 / s + f();");
        steps.run(9);
        Probe.due("other steps", steps.twin(1), -2);
        steps.run(1);
        Probe.due("the end is another one without fuel", steps.twin(1), -2);
        QuietChecker both = Probe.running("sec s; s = 1 / s; skip;");
        Probe.due("another end and other steps", both.twin(1), -2);
        QuietChecker full = Probe.running("sec s; pub i; pub a[2]; while i < 3999 { i = i + 1; } s = 1 / s; if 1 { }");
        Probe.due("notes", full.count(7), 4000);
        Probe.due("ends 3 and 4 with 4000 notes", full.twin(1), -2);
    }

    /** "NONE when all is the same" */
    private static void twinTellsNone() {
        QuietChecker x = Probe.running("sec s; sec t[2]; pub i; while i < 4 { s = s * t[i & 1] + 1; i = i + 1; }");
        for (int seed : new int[] {0, 1, -1, 2, MOST, LEAST}) {
            Probe.due("twin(" + seed + ")", x.twin(seed), QuietChecker.NONE);
        }
        Probe.due("twin of nothing", Probe.running("").twin(5), -1);
        Probe.due("twin without secrets", Probe.running("pub x; if x { } x = 1 / x;").twin(5), -1);
    }

    /** "The latest run, its notes and values stay." */
    private static void twinLeavesTheRun() {
        QuietChecker x = Probe.reading("sec s; pub a[4]; pub p; a[s & 3] = 7; p = s; if s { skip; } while s { s = s - 1; }");
        x.put(0, 0, 2);
        x.run(50);
        String before = Probe.state(x);
        for (int seed : new int[] {1, 3, -1, 0, LEAST}) {
            x.twin(seed);
            Probe.dueState("twin(" + seed + ")", x, before);
        }
        x.run(50);
        Probe.dueState("a run with the same inputs", x, before);
    }

    /** "twin: IllegalStateException when nothing was run." */
    private static void twinNeedsARun() {
        QuietChecker x = new QuietChecker();
        Probe.throwsState("twin of a new object", () -> x.twin(0));
        Probe.feed(x, "sec s; s = 1;");
        Probe.throwsState("twin before check", () -> x.twin(0));
        x.check();
        Probe.throwsState("twin before a run", () -> x.twin(1));
        x.run(0);
        Probe.due("twin of a run without fuel", x.twin(1), -1);
        x.check();
        Probe.throwsState("twin behind the next check", () -> x.twin(1));
    }

    /** "value: IllegalStateException when nothing was run" */
    private static void valueNeedsARun() {
        QuietChecker x = new QuietChecker();
        int[][] any = {{0, 0}, {-1, 0}, {0, -1}, {40, 64}, {LEAST, LEAST}, {MOST, MOST}};
        for (int[] one : any) {
            Probe.throwsState("value of a new object", () -> x.value(one[0], one[1]));
        }
        Probe.feed(x, "pub x;");
        x.check();
        x.put(0, 0, 4);
        for (int[] one : any) {
            Probe.throwsState("value before a run", () -> x.value(one[0], one[1]));
        }
        x.run(0);
        Probe.due("value", x.value(0, 0), 4);
        x.put(0, 0, 5);
        Probe.due("value at the end of the run", x.value(0, 0), 4);
    }

    /** "else IndexOutOfBoundsException when there is none such" */
    private static void valueRefusesWhatThereIsNot() {
        QuietChecker x = Probe.running(TEXT);
        int[][] wrong = {{-1, 0}, {4, 0}, {40, 0}, {LEAST, 0}, {MOST, 0}, {0, 1}, {0, -1}, {0, 64}, {0, -64}, {1, 3},
            {1, -1}, {1, 64}, {2, 1}, {3, 2}, {3, -1}, {1, LEAST}, {1, MOST}, {67108864, 0}, {-1, 64}, {4, -64}};
        for (int[] one : wrong) {
            Probe.throwsIndex("value(" + one[0] + ", " + one[1] + ")", () -> x.value(one[0], one[1]));
        }
        int[][] fine = {{0, 0, 1}, {1, 0, 0}, {1, 2, 0}, {2, 0, 0}, {3, 0, 0}, {3, 1, 1}};
        for (int[] one : fine) {
            Probe.due("value(" + one[0] + ", " + one[1] + ")", x.value(one[0], one[1]), one[2]);
        }
        QuietChecker none = Probe.running("skip;");
        Probe.throwsIndex("value without a declaration", () -> none.value(0, 0));
    }

    /** "note: IllegalStateException when nothing was run" */
    private static void noteNeedsARun() {
        QuietChecker x = new QuietChecker();
        for (int i : new int[] {0, -1, 1, 4000, LEAST, MOST}) {
            Probe.throwsState("note of a new object", () -> x.note(i));
        }
        Probe.feed(x, "if 1 { }");
        x.check();
        for (int i : new int[] {0, -1, 1, 4000, LEAST, MOST}) {
            Probe.throwsState("note before a run", () -> x.note(i));
        }
        x.run(1);
        Probe.due("note", x.note(0), 1);
    }

    /** "else IndexOutOfBoundsException when there is none" */
    private static void noteRefusesWhatThereIsNot() {
        QuietChecker x = Probe.reading("if 1 { if 0 { } }");
        x.run(9);
        Probe.due("the last note", x.note(1), 14);
        for (int i : new int[] {-1, 2, 3, 3999, 4000, 4001, LEAST, MOST}) {
            Probe.throwsIndex("note(" + i + ")", () -> x.note(i));
        }
        x.run(1);
        Probe.throwsIndex("note that only an earlier run had", () -> x.note(1));
        x.run(0);
        Probe.throwsIndex("note of a run without notes", () -> x.note(0));
        QuietChecker most = Probe.running("while 1 { }");
        Probe.due("note 3999", most.note(3999), 1);
        Probe.throwsIndex("note(4000)", () -> most.note(4000));
    }

    /** "letter: IndexOutOfBoundsException when there is none." */
    private static void letterRefusesWhatThereIsNot() {
        QuietChecker x = Probe.reading("pub x; sec fifteen_letters[3]; fun pub g() { pub m; return 1; } "
                + "fun pub FIFTEEN_LETTERS(pub n) { return 1; } fun pub _() { return 1; }");
        dueName(x, 0, false, "x");
        dueName(x, 1, false, "fifteen_letters");
        dueName(x, 0, true, "g");
        dueName(x, 1, true, "FIFTEEN_LETTERS");
        dueName(x, 2, true, "_");
        for (int k : new int[] {-1, 2, 3, 39, 40, LEAST, MOST}) {
            Probe.throwsIndex("letter of declaration " + k, () -> x.letter(k, false, 0));
        }
        for (int k : new int[] {-1, 3, 5, 6, LEAST, MOST}) {
            Probe.throwsIndex("letter of function " + k, () -> x.letter(k, true, 0));
        }
        Probe.throwsIndex("letter of a new object", () -> new QuietChecker().letter(0, false, 0));
        Probe.throwsIndex("letter of a new object", () -> new QuietChecker().letter(0, true, 0));
        QuietChecker none = Probe.reading("pub x; fun pub f() { return 1; } y = 1;");
        Probe.throwsIndex("letter behind a fault", () -> none.letter(0, false, 0));
        Probe.throwsIndex("letter behind a fault", () -> none.letter(0, true, 0));
    }

    private static void dueName(QuietChecker x, int k, boolean functions, String name) {
        for (int i = 0; i < name.length(); i++) {
            Probe.due("letter " + i + " of " + name, x.letter(k, functions, i), name.charAt(i));
        }
        for (int i : new int[] {-1, name.length(), name.length() + 1, LEAST, MOST}) {
            Probe.throwsIndex("letter " + i + " of " + name, () -> x.letter(k, functions, i));
        }
    }

    private static void dueCounts(QuietChecker x, int... due) {
        for (int what = 0; what < due.length; what++) {
            Probe.due("count(" + what + ")", x.count(what), due[what]);
        }
    }

    /** "0 declarations of the top, 1 functions, 2 secret declarations, 3 arrays, 4 statements in all, 5, 6" */
    private static void countsOfTheProgram() {
        dueCounts(new QuietChecker(), 0, 0, 0, 0, 0, 0, 0);
        dueCounts(Probe.reading(""), 0, 0, 0, 0, 0, 0, 1);
        dueCounts(Probe.reading("pub x;"), 1, 0, 0, 0, 0, 0, 1);
        dueCounts(Probe.reading("sec x;"), 1, 0, 1, 0, 0, 0, 1);
        dueCounts(Probe.reading("sec x[1];"), 1, 0, 1, 1, 0, 0, 1);
        dueCounts(Probe.reading("fun sec f(sec n) { sec m; return 1; }"), 0, 1, 0, 0, 0, 0, 1);
        dueCounts(Probe.reading("pub x; fun pub f() { if 1 { skip; } else { skip; x = 1; } while 0 { skip; } return 1; } x = f();"),
                1, 1, 0, 0, 7, 0, 1);
        dueCounts(Probe.reading(Probe.repeated("skip;", 600)), 0, 0, 0, 0, 600, 0, 1);
        dueCounts(Probe.reading("sec s; if s { s = s / s; }"), 1, 0, 1, 0, 2, 6, 1);
        dueCounts(Probe.reading("sec s; if s { s = s / s; "), 0, 0, 0, 0, 0, 1, 0);
    }

    /** "of the latest run: 7 notes, 8 steps, 9 how it ended (all three NONE when nothing was run since check())" */
    private static void countsOfTheRun() {
        QuietChecker x = Probe.reading("pub a[1]; pub i; while i < 3 { a[i] = 1; i = i + 1; }");
        dueCounts(x, 2, 0, 0, 1, 3, 0, 1, -1, -1, -1, 0);
        x.run(0);
        dueCounts(x, 2, 0, 0, 1, 3, 0, 1, 0, 0, 1, 0);
        x.run(20000);
        dueCounts(x, 2, 0, 0, 1, 3, 0, 1, 3, 5, 2, 0);
        Probe.throwsArgument("run(20001)", () -> x.run(20001));
        dueCounts(x, 2, 0, 0, 1, 3, 0, 1, 3, 5, 2, 0);
        x.check();
        dueCounts(x, 0, 0, 0, 0, 0, 0, 1, -1, -1, -1, 0);
        x.run(0);
        dueCounts(x, 0, 0, 0, 0, 0, 0, 1, 0, 0, 0, 0);
        Probe.feed(x, "$");
        x.check();
        dueCounts(x, 0, 0, 0, 0, 0, 1, 0, -1, -1, -1, 0);
    }

    /** "10 the length of the text" */
    private static void countOfTheText() {
        QuietChecker x = new QuietChecker();
        Probe.due("length", x.count(10), 0);
        for (int n = 1; n <= 375; n++) {
            x.feed(0x2020202020202020L, 8);
        }
        Probe.due("length", x.count(10), 3000);
        x.check();
        Probe.due("length", x.count(10), 0);
    }

    /** "NONE for others." */
    private static void noneForOthers() {
        QuietChecker[] all = {new QuietChecker(), Probe.reading("pub x;"), Probe.running(TEXT), Probe.reading("$")};
        for (QuietChecker x : all) {
            for (int what : new int[] {-1, -2, 11, 12, 16, 100, 256, LEAST, MOST}) {
                Probe.due("count(" + what + ")", x.count(what), QuietChecker.NONE);
            }
        }
    }

    /** "An object is used for at most 512 calls after it has been made" */
    private static void calls512() {
        QuietChecker x = Probe.reading("sec s; pub x; pub a[2]; fun pub f() { x = x + 1; return x; } "
                + "while x < 900 { a[x & 1] = f() + f(); } if s { }");
        int feedsAndCheck = 17;
        for (int made = feedsAndCheck; made < 508; made += 2) {
            Probe.due("run", x.run(20000), 0);
            Probe.due("twin", x.twin(made), 450 * 2 + 1);
        }
        Probe.due("value", x.value(1, 0), 900);
        Probe.due("notes", x.count(7), 450 * 2 + 2);
    }
}
