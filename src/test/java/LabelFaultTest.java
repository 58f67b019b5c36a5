/** Promise 3 with the section LABELS: faults 6 to 9. */
public final class LabelFaultTest {
    private static final String START = "sec s; pub p; sec t[4]; pub a[4]; "
            + "fun sec hide(pub n) { return n; } fun pub show(sec n, pub m) { return m; } ";

    public static void main(String[] args) {
        branches();
        indexes();
        flows();
        divisions();
        labelsOfParts();
        theLeastPlaceCounts();
        runsAllTheSame();
        Probe.finish();
    }

    private static void branches() {
        Probe.dueFault(6, START + "@if s { }");
        Probe.dueFault(6, START + "@while p < s { }");
        Probe.dueFault(6, START + "skip; if p { @if !s { } else { } }");
        Probe.dueNoFault(START + "if p { s = 1; } while p { s = s + 1; p = 0; }");
    }

    private static void indexes() {
        Probe.dueFault(7, START + "p = a@[s];");
        Probe.dueFault(7, START + "s = t@[s];");
        Probe.dueFault(7, START + "t@[s] = 1;");
        Probe.dueFault(7, START + "a@[t[0]] = 1;");
        Probe.dueFault(7, START + "s = t[a@[s]];");
        Probe.dueNoFault(START + "t[p] = s; s = t[a[p]];");
    }

    private static void flows() {
        Probe.dueFault(8, START + "p @= s;");
        Probe.dueFault(8, START + "a[p] @= s;");
        Probe.dueFault(8, START + "p @= t[0];");
        Probe.dueFault(8, START + "fun pub f(sec n) { @return n; }");
        Probe.dueFault(8, START + "fun pub f() { @return s; }");
        Probe.dueFault(8, START + "fun sec f(sec n) { pub m; m @= n; return m; }");
        Probe.dueFault(8, START + "fun pub f(sec p) { @return p; }");
        Probe.dueNoFault(START + "fun pub f(pub s) { return s; }");
        Probe.dueFault(8, START + "s = hide(@s);");
        Probe.dueFault(8, START + "s = show(s, 1 + show(2, @-s));");
        Probe.dueFault(8, START + "s = hide(  @(1 + s));");
        Probe.dueFault(8, START + "p = show(s, @1 + s);");
        Probe.dueNoFault(START + "s = p; t[1] = p; s = show(s, 1); p = show(s, p); a[0] = show(1, 2);");
    }

    private static void divisions() {
        Probe.dueFault(9, START + "s = s @/ 2;");
        Probe.dueFault(9, START + "s = 2 @/ s;");
        Probe.dueFault(9, START + "s = s @% 2;");
        Probe.dueFault(9, START + "s = 2 @% s;");
        Probe.dueFault(9, START + "s = 2 / 1 * s @% 3;");
        Probe.dueNoFault(START + "s = p / 2 + s * 3; s = s + p % 3;");
    }

    private static void labelsOfParts() {
        for (String part : new String[] {
            "s", "t[0]", "hide(1)", "(s)", "-s", "~s", "!s", "s ? 1 : 2", "1 ? s : 2", "1 ? 2 : s",
            "s | 1", "1 ^ s", "s & 0", "s == 1", "1 != s", "s < 1", "1 <= s", "s << 1", "1 >> s",
            "s + 1", "1 - s", "s * 0", "1 + 2 * (3 - s)"}) {
            Probe.dueFault(8, START + "p @= " + part + ";");
            Probe.dueNoFault(START + "s = " + part + ";");
        }
        for (String part : new String[] {"1", "p", "a[0]", "show(s, 1)", "p ? p : 2", "-p", "p / 2"}) {
            Probe.dueNoFault(START + "p = " + part + ";");
        }
    }

    private static void theLeastPlaceCounts() {
        Probe.dueFault(6, START + "@if t[s] / s { p = s; }");
        Probe.dueFault(8, START + "p @= t[s] / s;");
        Probe.dueFault(7, START + "a@[s] = s;");
        Probe.dueFault(7, START + "s = t@[s] / s;");
        Probe.dueFault(9, START + "s = 1 @/ t[s];");
        Probe.dueFault(8, START + "s = hide(@t[s]);");
        Probe.dueFault(7, START + "s = hide(a@[s]);");
        Probe.dueFault(8, START + "fun pub f() { @return t[s]; } if s { }");
        Probe.dueFault(7, START + "fun sec f() { return t@[s]; } if s { }");
        Probe.dueFault(8, START + "p @= s; p = s; if s { }");
    }

    private static void runsAllTheSame() {
        QuietChecker x = Probe.reading("sec s; pub p; if s == 3 { p = s / 3; }");
        x.put(0, 0, 3);
        Probe.due("run with a fault of labels", x.run(9), 0);
        Probe.due("value", x.value(1, 0), 1);
    }
}
