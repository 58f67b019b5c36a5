/** Promise 7. */
public final class ValueTest {
    public static void main(String[] args) {
        answersWhatWasLeft();
        startsEachRunAnew();
        refuses();
        Probe.finish();
    }

    private static void answersWhatWasLeft() {
        QuietChecker x = Probe.running("pub p; sec a[64]; fun pub f() { return 1; } sec s; a[63] = 5; a[0] = 6; s = 7; p = f();");
        Probe.due("p", x.value(0, 0), 1);
        Probe.due("a[0]", x.value(1, 0), 6);
        Probe.due("a[1]", x.value(1, 1), 0);
        Probe.due("a[63]", x.value(1, 63), 5);
        Probe.due("s", x.value(2, 0), 7);
    }

    private static void startsEachRunAnew() {
        QuietChecker x = Probe.reading("pub p; pub a[2]; p = p + 1; a[p] = 4;");
        for (int round = 0; round < 3; round++) {
            x.run(9);
            Probe.due("p", x.value(0, 0), 1);
            Probe.due("a[1]", x.value(1, 1), 4);
        }
        x.put(0, 0, -1);
        x.run(9);
        Probe.due("a[0]", x.value(1, 0), 4);
        Probe.due("a[1]", x.value(1, 1), 0);
    }

    private static void refuses() {
        QuietChecker x = Probe.reading("pub p; pub a[2]; fun pub f(pub n) { pub m; return n; }");
        Probe.throwsState("value before a run", () -> x.value(0, 0));
        Probe.throwsState("value before a run", () -> x.value(-1, 0));
        x.run(0);
        int[][] wrong = {{-1, 0}, {2, 0}, {40, 0}, {0, 1}, {0, -1}, {1, 2}, {1, -1},
            {Integer.MAX_VALUE, 0}, {Integer.MIN_VALUE, 0}, {1, Integer.MAX_VALUE}};
        for (int[] one : wrong) {
            Probe.throwsIndex("value(" + one[0] + ", " + one[1] + ")", () -> x.value(one[0], one[1]));
        }
        Probe.due("value that there is", x.value(1, 1), 0);
    }
}
