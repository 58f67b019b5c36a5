/** Promise 3: what check() leaves behind. */
public final class CheckStateTest {
    public static void main(String[] args) {
        emptiesTheText();
        forgetsInputsAndRuns();
        aFaultLeavesNoProgram();
        readsLongTextsOneBehindTheOther();
        Probe.finish();
    }

    private static void emptiesTheText() {
        QuietChecker x = new QuietChecker();
        Probe.feed(x, "pub x; x = 1");
        Probe.due("length", x.count(10), 12);
        Probe.due("check", x.check(), 1 + 16 * 12);
        Probe.due("length", x.count(10), 0);
        Probe.due("check of nothing", x.check(), 0);
        Probe.due("whether there is a program", x.count(6), 1);
        Probe.due("run of nothing", x.run(0), 0);
        Probe.due("declarations", x.count(0), 0);
    }

    private static void forgetsInputsAndRuns() {
        QuietChecker x = new QuietChecker();
        for (int round = 0; round < 2; round++) {
            Probe.feed(x, "pub x; pub y; if x { y = x; }");
            Probe.due("check", x.check(), 0);
            for (int what = 7; what <= 9; what++) {
                Probe.due("count(" + what + ") behind check", x.count(what), QuietChecker.NONE);
            }
            Probe.throwsState("value behind check", () -> x.value(0, 0));
            Probe.throwsState("note behind check", () -> x.note(0));
            Probe.throwsState("twin behind check", () -> x.twin(1));
            x.run(9);
            Probe.due("input behind check", x.value(0, 0), 0);
            x.put(0, 0, 5);
            x.run(9);
            Probe.due("value", x.value(1, 0), 5);
        }
    }

    private static void readsLongTextsOneBehindTheOther() {
        QuietChecker x = new QuietChecker();
        for (int round = 0; round < 2; round++) {
            Probe.feed(x, "pub x; x = 1" + Probe.repeated("+1", 990) + ";");
            Probe.due("check", x.check(), 0);
            x.run(1);
            Probe.due("value", x.value(0, 0), 991);
        }
        QuietChecker longest = Probe.running("pub x;x=1" + Probe.repeated("+1", 1495) + ";");
        Probe.due("value of the longest text", longest.value(0, 0), 1496);
    }

    private static void aFaultLeavesNoProgram() {
        QuietChecker x = Probe.running("pub x; sec a[2]; fun pub f() { return 1; } x = f();");
        Probe.feed(x, "pub x; sec a[2]; fun pub f() { return 1; } x = y;");
        Probe.due("check", x.check(), 2 + 16 * 47);
        for (int what = 0; what <= 4; what++) {
            Probe.due("count(" + what + ") without a program", x.count(what), 0);
        }
        Probe.due("fault", x.count(5), 2);
        Probe.due("whether there is a program", x.count(6), 0);
        Probe.throwsState("put", () -> x.put(0, 0, 1));
        Probe.throwsState("run", () -> x.run(1));
        Probe.throwsState("twin", () -> x.twin(1));
        Probe.throwsState("value", () -> x.value(0, 0));
        Probe.throwsState("note", () -> x.note(0));
        Probe.throwsIndex("letter", () -> x.letter(0, false, 0));
        Probe.throwsIndex("letter of a function", () -> x.letter(0, true, 0));
    }
}
