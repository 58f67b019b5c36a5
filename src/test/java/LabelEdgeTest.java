/** The boundary cases of the section LABELS and of the faults 6 to 9: a method for each sentence. */
public final class LabelEdgeTest {
    private static final String START = "sec s; pub p; sec t[4]; pub a[4]; "
            + "fun sec hide(pub n) { return n; } fun pub show(sec n, pub m) { return m; } ";

    public static void main(String[] args) {
        aNumberIsPublic();
        aCellIsAsItsArray();
        aCallIsAsItsFunction();
        secretIfOnePartIs();
        secretBranches();
        secretIndexes();
        secretsThatGoToSomethingPublic();
        secretDivisions();
        theLeastPlace();
        onlyWithoutOtherFaults();
        Probe.finish();
    }

    /** "of a number public" */
    private static void aNumberIsPublic() {
        Probe.dueNoFault(START + "p = 0; a[0] = 4294967295; if 1 { } while 0 { } p = 1 / 2; p = show(s, 1);");
        Probe.dueNoFault("fun pub f() { return 7; }");
    }

    /** "of an array's cell that of the array" */
    private static void aCellIsAsItsArray() {
        Probe.dueFault(8, START + "p @= t[0];");
        Probe.dueFault(8, START + "p @= t[p];");
        Probe.dueNoFault(START + "p = a[3];");
        Probe.dueFault(7, START + "p = a@[s];");
        Probe.dueFault(7, START + "a@[s] = 1; skip;");
        Probe.dueNoFault(START + "t[a[0]] = t[p];");
    }

    /** "of a call that of the function" */
    private static void aCallIsAsItsFunction() {
        Probe.dueFault(8, START + "p @= hide(1);");
        Probe.dueNoFault(START + "p = show(s, 1);");
        Probe.dueNoFault(START + "p = show(t[0] + hide(2), a[0]);");
        Probe.dueFault(6, START + "@if hide(1) { }");
        Probe.dueNoFault(START + "if show(s, 1) { }");
    }

    /** "of others secret if one of what they are made of is" */
    private static void secretIfOnePartIs() {
        for (String sign : "| ^ & == != < <= << >> + - *".split(" ")) {
            Probe.dueFault(8, START + "p @= s " + sign + " 1;");
            Probe.dueFault(8, START + "p @= 1 " + sign + " s;");
            Probe.dueFault(8, START + "p @= p " + sign + " 1 " + sign + " (p " + sign + " s);");
            Probe.dueNoFault(START + "p = p " + sign + " a[1];");
        }
        for (String sign : "- ~ !".split(" ")) {
            Probe.dueFault(8, START + "p @= " + sign + "s;");
            Probe.dueNoFault(START + "p = " + sign + "p;");
        }
        Probe.dueFault(8, START + "p @= s ? 1 : 2;");
        Probe.dueFault(8, START + "p @= 1 ? s : 2;");
        Probe.dueFault(8, START + "p @= 1 ? 2 : s;");
        Probe.dueFault(8, START + "p @= s ^ s;");
        Probe.dueFault(8, START + "p @= s & 0;");
        Probe.dueFault(8, START + "p @= (s);");
    }

    /** "6 secret what a branch (if, while) asks: at its word" */
    private static void secretBranches() {
        Probe.dueFault(6, START + "@if s { }");
        Probe.dueFault(6, START + "@while s { }");
        Probe.dueFault(6, START + "if p { skip; } else { @while p | s { } }");
        Probe.dueFault(6, START + "fun pub f(sec n) { @if n { } return 1; }");
        Probe.dueNoFault(START + "p = 0; s = s ? 1 : 2;");
        Probe.dueNoFault(START + "if p { s = 1; }");
    }

    /** "7 secret what stands in [ ]: at the [ " */
    private static void secretIndexes() {
        Probe.dueFault(7, START + "s = t  @[s];");
        Probe.dueFault(7, START + "t  @[s] = 1;");
        Probe.dueFault(7, START + "t@[t[0]] = 1;");
        Probe.dueFault(7, START + "t@[t[s]] = 1;");
        Probe.dueFault(7, START + "s = a[a@[s]];");
        Probe.dueFault(7, START + "p = p + a@[s];");
    }

    /** "8 secret what goes to something public: at the = , or the return, or the first token of an E ..." */
    private static void secretsThatGoToSomethingPublic() {
        Probe.dueFault(8, START + "p  @= s;");
        Probe.dueFault(8, START + "a[0]  @= s;");
        Probe.dueFault(8, START + "fun pub f() {  @return s; }");
        Probe.dueFault(8, START + "fun pub f(sec n) { pub m;  m @= n; return 1; }");
        Probe.dueFault(8, START + "fun pub f(pub n) { n @= s; return 1; }");
        Probe.dueNoFault(START + "fun sec f(sec n) { return n; }");
        Probe.dueNoFault(START + "fun sec f() { return 1; }");
        for (String e : new String[] {"s", "(s)", "-s", "~s", "!s", "1 + s", "t[0]", "p ? 1 : s", "hide(1)"}) {
            Probe.dueFault(8, START + "s = hide( @" + e + ");");
            Probe.dueFault(8, START + "p = show(s, @" + e + ");");
            Probe.dueNoFault(START + "p = show(" + e + ", 1);");
        }
        String many = "fun pub g(sec a, sec b, pub c, sec d, pub e) { return c; } ";
        Probe.dueNoFault(START + many + "p = g(s, s, 1, s, 1);");
        Probe.dueFault(8, START + many + "p = g(s, s, 1, s, @s);");
        Probe.dueFault(8, START + many + "p = g(s, s, @s, s, s);");
    }

    /** "9 / or % of something secret: at its sign" */
    private static void secretDivisions() {
        for (String sign : "/ %".split(" ")) {
            Probe.dueFault(9, START + "s = s @" + sign + " 2;");
            Probe.dueFault(9, START + "s = 2 @" + sign + " s;");
            Probe.dueFault(9, START + "s = 2 " + sign + " p @" + sign + " s;");
            Probe.dueFault(9, START + "s = s @" + sign + " p " + sign + " 2;");
            Probe.dueFault(9, START + "s = 1 * s @" + sign + " 2;");
            Probe.dueFault(9, START + "s = p @" + sign + " (1 + s);");
            Probe.dueFault(9, START + "s = p @" + sign + " -s;");
            Probe.dueNoFault(START + "s = p " + sign + " 2 * s;");
            Probe.dueNoFault(START + "s = s + p " + sign + " a[0];");
            Probe.dueNoFault(START + "s = s + show(s, 1) " + sign + " show(s, 2);");
        }
    }

    /** "the one with the least place" */
    private static void theLeastPlace() {
        Probe.dueFault(6, START + "@if s / t[s] { p = s; }");
        Probe.dueFault(6, START + "@while t[s] { p = s; }");
        Probe.dueFault(7, START + "t@[s] = s / s;");
        Probe.dueFault(7, START + "a@[s] = s;");
        Probe.dueFault(7, START + "a@[s / s] = s;");
        Probe.dueFault(8, START + "p @= t[s / s];");
        Probe.dueFault(7, START + "s = t@[s / s];");
        Probe.dueFault(9, START + "s = s @/ t[s];");
        Probe.dueFault(8, START + "p = show(s, @s / t[s]);");
        Probe.dueFault(8, START + "p = show(1, show(s, @s));");
        Probe.dueFault(8, START + "fun pub f() { @return s / t[s]; } if s { }");
        Probe.dueFault(9, START + "fun pub f() { s = s @/ 1; return s; } if s { }");
        Probe.dueFault(9, START + "s = 1 @% s; p = s;");
    }

    /** "Then, by LABELS": with a fault of 1 to 5 anywhere, that one is told */
    private static void onlyWithoutOtherFaults() {
        Probe.dueFault(1, START + "p = s; @;");
        Probe.dueFault(1, START + "if s { p = s / t[s]; @");
        Probe.dueFault(2, START + "p = s; @y = 1;");
        Probe.dueFault(3, "sec s; pub p; fun pub f() { return s; } pub @p;");
        Probe.dueFault(5, START + "p = hide(s, s@);");
        QuietChecker x = Probe.reading(START + "p = s + 1;");
        Probe.due("fault", x.count(5), 8);
        Probe.due("whether there is a program", x.count(6), 1);
        Probe.due("run", x.run(9), 0);
        Probe.due("value", x.value(1, 0), 1);
    }
}
