/** Promise 4. */
public final class PutTest {
    public static void main(String[] args) {
        setsInputs();
        staysForLaterRuns();
        refusesWhatThereIsNot();
        Probe.finish();
    }

    private static void setsInputs() {
        QuietChecker x = Probe.reading("pub p; sec a[3]; pub b[64]; sec s;");
        x.put(0, 0, 7);
        x.put(1, 0, 8);
        x.put(1, 2, Integer.MIN_VALUE);
        x.put(2, 63, -1);
        x.put(3, 0, 9);
        x.put(3, 0, 10);
        x.run(0);
        int[][] due = {{0, 0, 7}, {1, 0, 8}, {1, 1, 0}, {1, 2, Integer.MIN_VALUE}, {2, 0, 0}, {2, 63, -1}, {3, 0, 10}};
        for (int[] one : due) {
            Probe.due("value(" + one[0] + ", " + one[1] + ")", x.value(one[0], one[1]), one[2]);
        }
    }

    private static void staysForLaterRuns() {
        QuietChecker x = Probe.reading("pub p; pub q; q = p; p = 0;");
        x.put(0, 0, 4);
        for (int round = 0; round < 2; round++) {
            x.run(9);
            Probe.due("what the run was given", x.value(1, 0), 4);
            Probe.due("what it left", x.value(0, 0), 0);
        }
        x.put(0, 0, 5);
        Probe.due("value before the next run", x.value(1, 0), 4);
    }

    private static void refusesWhatThereIsNot() {
        QuietChecker x = Probe.reading("pub p; sec a[3]; fun pub f(pub n) { return n; }");
        int[][] wrong = {{-1, 0}, {2, 0}, {0, 1}, {0, -1}, {1, 3}, {1, -1}, {Integer.MIN_VALUE, 0},
            {Integer.MAX_VALUE, 0}, {0, Integer.MAX_VALUE}, {1, Integer.MIN_VALUE}};
        for (int[] one : wrong) {
            Probe.throwsIndex("put(" + one[0] + ", " + one[1] + ")", () -> x.put(one[0], one[1], 1));
        }
        Probe.throwsState("put without a program", () -> new QuietChecker().put(-1, 0, 1));
    }
}
