/** Promise 8 with what is NOTED of the section RUNNING. */
public final class NoteTest {
    public static void main(String[] args) {
        branches();
        cells();
        order();
        nothingBehindTheEnd();
        atMost4000();
        refuses();
        Probe.finish();
    }

    /** An @ marks each word of a branch; a note n >= 0 stands for the n / 2-th of them, + n % 2. */
    private static void dueRun(String marked, int... notes) {
        String text = marked.replace("@", "");
        int[] due = notes.clone();
        for (int i = 0; i < due.length; i++) {
            if (due[i] >= 0) {
                due[i] = 2 * markedPlace(marked, due[i] / 2) + due[i] % 2;
            }
        }
        Probe.dueNotes(text, Probe.running(text), due);
    }

    private static int markedPlace(String marked, int which) {
        int at = -1;
        for (int k = 0; k <= which; k++) {
            at = marked.indexOf('@', at + 1);
        }
        return at - which;
    }

    private static void branches() {
        dueRun("pub x; skip;");
        dueRun("@if 0 { skip; }", 0);
        dueRun("@if 2 { @if 0 { } else { @if 1 { } } }", 1, 2, 5);
        dueRun("pub i; @while i < 2 { i = i + 1; @if i == 2 { skip; } }", 1, 2, 1, 3, 0);
        dueRun("pub x; x = 1 ? 2 : 3;");
        dueRun("pub x; fun pub f(pub n) { @if n { } return n; } x = f(1) + f(0);", 1, 0);
    }

    private static void cells() {
        dueRun("pub x; pub a[3]; pub y; pub b[64]; sec c[2]; a[2] = 1; x = a[1]; b[63] = 0; c[1] = b[0];",
                -1 - 2, -1 - 1, -1 - 64 - 63, -1 - 64, -1 - 128 - 1);
        dueRun("pub x; pub y; pub a[2]; fun pub f(pub n) { return a[n]; } x = f(1); x = y;", -2);
    }

    private static void order() {
        String start = "pub x; pub a[9]; ";
        dueRun(start + "a[a[1]] = a[2] + a[3] * a[4];", -2, -3, -4, -5, -1);
        dueRun(start + "x = a[a[a[3]]];", -4, -1, -1);
        dueRun(start + "x = a[1] ? a[2] : a[3];", -2, -3, -4);
        dueRun(start + "@if a[5] { } else { x = a[6]; }", -6, 0, -7);
        dueRun(start + "fun pub f(pub m, pub n) { return a[7]; } x = a[0] + f(a[1], a[2]) + a[3];",
                -1, -2, -3, -8, -4);
        dueRun(start + "x = -a[4] & (a[1] | a[2]) == a[0];", -5, -2, -3, -1);
    }

    private static void nothingBehindTheEnd() {
        String start = "pub x; pub a[3]; pub b[3]; ";
        dueRun(start + "a[1] = b[3]; a[2] = 1;");
        dueRun(start + "a[3] = b[2]; a[2] = 1;", -1 - 66);
        dueRun(start + "a[0] = b[2] / b[1]; a[2] = 1;", -1 - 66, -1 - 65);
        dueRun(start + "@if 1 / 0 { }");
    }

    private static void atMost4000() {
        String text = "pub x; pub y; pub a[2]; while 1 { x = x + 1; a[1] = x; y = y + 1; }";
        QuietChecker x = Probe.reading(text);
        Probe.due("end", x.run(20000), 4);
        Probe.due("notes", x.count(7), 4000);
        Probe.due("the last note", x.note(3999), -2);
        Probe.throwsIndex("note(4000)", () -> x.note(4000));
        Probe.due("x", x.value(0, 0), 2000);
        Probe.due("steps", x.count(8), 1 + 4 * 2000);
        String odd = "pub x; pub y; pub a[2]; y = a[0]; while 1 { x = x + 1; a[1] = x; y = y + 1; }";
        QuietChecker z = Probe.reading(odd);
        Probe.due("end", z.run(20000), 4);
        Probe.due("notes", z.count(7), 4000);
        Probe.due("the last note", z.note(3999), 2 * odd.indexOf("while") + 1);
        Probe.due("y", z.value(1, 0), 1999);
        Probe.due("the cell that could not be noted", z.value(2, 1), 1999);
        QuietChecker all = Probe.reading("pub x; while x < 3999 { x = x + 1; }");
        Probe.due("end with 4000 notes", all.run(20000), 0);
        Probe.due("notes", all.count(7), 4000);
        QuietChecker more = Probe.reading("pub x; while x < 4000 { x = x + 1; }");
        Probe.due("end with 4001 notes", more.run(20000), 4);
    }

    private static void refuses() {
        QuietChecker x = Probe.reading("if 1 { }");
        Probe.throwsState("note before a run", () -> x.note(0));
        Probe.throwsState("note before a run", () -> x.note(-1));
        x.run(1);
        Probe.due("note", x.note(0), 1);
        for (int i : new int[] {-1, 1, 4000, Integer.MIN_VALUE, Integer.MAX_VALUE}) {
            Probe.throwsIndex("note(" + i + ")", () -> x.note(i));
        }
        x.run(0);
        Probe.throwsIndex("note of a run without", () -> x.note(0));
    }
}
