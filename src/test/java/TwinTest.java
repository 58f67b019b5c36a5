/** Promise 6. */
public final class TwinTest {
    public static void main(String[] args) {
        findsTheFirstOtherNote();
        findsOtherEndsAndSteps();
        disturbsSecretsAlone();
        takesWhatTheRunHad();
        leavesTheRunAlone();
        needsARun();
        Probe.finish();
    }

    private static void findsTheFirstOtherNote() {
        QuietChecker x = Probe.running("sec s; pub a[4]; a[0] = 1; a[s & 3] = 2; skip;");
        Probe.due("twin(0)", x.twin(0), QuietChecker.NONE);
        Probe.due("twin(1)", x.twin(1), 1);
        Probe.due("twin(4)", x.twin(4), QuietChecker.NONE);
        Probe.due("twin(-1)", x.twin(-1), 1);
        QuietChecker more = Probe.running("sec s; pub a[4]; a[0] = 1; a[s] = 1; a[2] = 1;");
        Probe.due("a note in the run alone", more.twin(9), 1);
        QuietChecker less = Probe.reading("sec s; pub a[4]; a[0] = 1; a[s] = 1; a[2] = 1;");
        less.put(0, 0, 9);
        less.run(9);
        Probe.due("a note in the twin alone", less.twin(9), 1);
        Probe.due("twin(1)", less.twin(1), QuietChecker.NONE);
    }

    private static void findsOtherEndsAndSteps() {
        QuietChecker end = Probe.running("sec s; pub p; p = 5 / (s + 1);");
        Probe.due("another end", end.twin(-1), -2);
        Probe.due("the same end", end.twin(1), QuietChecker.NONE);
        QuietChecker steps = Probe.running("sec s; pub p; fun pub f() { skip; return 1; } p = 1 / s + f() + f();");
        Probe.due("another end and other steps", steps.twin(1), -2);
        QuietChecker onlySteps = Probe.running("sec s; pub a[2]; fun sec f() { return 1 / 0; } s = 1 / s + f();");
        Probe.due("the end of this run", onlySteps.count(9), 3);
        Probe.due("only other steps", onlySteps.twin(1), -2);
    }

    private static void disturbsSecretsAlone() {
        String start = "pub p; sec s; pub q[2]; sec t[3]; sec u; pub a[64]; pub o; ";
        String[] cells = {"s", "t[0]", "t[1]", "t[2]", "u"};
        int seed = 0x01234567;
        for (int j = 0; j < cells.length; j++) {
            QuietChecker x = Probe.reading(start + "o = " + cells[j] + " == 77; if o { skip; }");
            int k = j == 0 ? 1 : j == 4 ? 4 : 3;
            x.put(k, k == 3 ? j - 1 : 0, 77 ^ seed * (2 * j + 1));
            x.run(9);
            int earlier = x.count(7) - 1;
            Probe.due("twin of " + cells[j], x.twin(seed), earlier);
            Probe.due("another twin of " + cells[j], x.twin(seed + 1), QuietChecker.NONE);
        }
        QuietChecker x = Probe.reading(start + "if p + q[0] + q[1] + a[63] + o != 15 { skip; }");
        for (int[] one : new int[][] {{0, 0, 1}, {2, 0, 2}, {2, 1, 3}, {5, 63, 4}, {6, 0, 5}}) {
            x.put(one[0], one[1], one[2]);
        }
        x.run(9);
        Probe.due("twin that asks public things", x.twin(99), QuietChecker.NONE);
    }

    private static void takesWhatTheRunHad() {
        QuietChecker x = Probe.reading("sec s; pub p; pub i; if s == 6 { skip; } if p == 3 { skip; } while i < 5 { i = i + 1; }");
        x.put(0, 0, 5);
        x.put(1, 0, 3);
        x.run(6);
        x.put(0, 0, 1);
        x.put(1, 0, 4);
        Probe.due("twin of what the run had", x.twin(3), 0);
        Probe.due("twin of what the run had", x.twin(1), QuietChecker.NONE);
        Probe.throwsArgument("wrong fuel", () -> x.run(-1));
        Probe.due("twin with the fuel of the run", x.twin(1), QuietChecker.NONE);
    }

    private static void leavesTheRunAlone() {
        String text = "sec s; pub a[4]; pub p; a[s & 3] = 7; p = s; if s { skip; }";
        QuietChecker x = Probe.running(text);
        Probe.due("twin", x.twin(1), 0);
        Probe.due("p", x.value(2, 0), 0);
        Probe.due("s", x.value(0, 0), 0);
        Probe.due("a[0]", x.value(1, 0), 7);
        Probe.due("a[1]", x.value(1, 1), 0);
        Probe.due("steps", x.count(8), 3);
        Probe.due("end", x.count(9), 0);
        Probe.dueNotes(text, x, -1, 2 * text.indexOf("if"));
        Probe.due("the same twin again", x.twin(1), 0);
        x.run(20000);
        Probe.due("inputs stay", x.value(0, 0), 0);
    }

    private static void needsARun() {
        QuietChecker x = Probe.reading("sec s;");
        Probe.throwsState("twin before a run", () -> x.twin(1));
        Probe.throwsArgument("run", () -> x.run(-1));
        Probe.throwsState("twin behind a refused run", () -> x.twin(1));
        x.run(0);
        Probe.due("twin", x.twin(1), QuietChecker.NONE);
    }
}
