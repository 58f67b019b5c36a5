/** Promise 3 with the sections NAMES and FAULTS: faults 2 to 5, and which of several counts. */
public final class NameFaultTest {
    private static final String START = "pub x; pub a[3]; fun pub f(pub n) { return n; } ";

    public static void main(String[] args) {
        namesThatThereAreNot();
        namesOfAnotherSort();
        namesToldAlready();
        tooManyNames();
        tooDeepStatements();
        tooDeepExpressions();
        wrongCalls();
        theFirstOneCounts();
        Probe.finish();
    }

    private static void namesThatThereAreNot() {
        Probe.dueFault(2, "@x = 1;");
        Probe.dueFault(2, "pub x; x = @y;");
        Probe.dueFault(2, "pub x; x = @y[0];");
        Probe.dueFault(2, "pub x; x = @g(1);");
        Probe.dueFault(2, "pub x; @X = 1;");
        Probe.dueFault(2, "pub xy; @x = 1;");
        Probe.dueFault(2, "pub x; @xy = 1;");
        Probe.dueFault(2, "fun pub f() { return @x; } pub x;");
        Probe.dueFault(2, "fun pub f() { return @f(); }");
        Probe.dueFault(2, "fun pub f() { return @g(); } fun pub g() { return 1; }");
        Probe.dueNoFault("fun pub g() { return 1; } fun pub f() { return g(); }");
        Probe.dueFault(2, "fun pub f(pub n) { pub m; return n; } pub x; x = @n;");
        Probe.dueFault(2, "fun pub f(pub n) { pub m; return n; } pub x; x = @m;");
        Probe.dueFault(2, "fun pub f(pub n) { pub m; return n; } fun pub g() { return @m; }");
        Probe.dueFault(2, "@y 5");
        Probe.dueFault(2, "pub x; x = @y $");
    }

    private static void namesOfAnotherSort() {
        Probe.dueFault(2, START + "@x[0] = 1;");
        Probe.dueFault(2, START + "@a = 1;");
        Probe.dueFault(2, START + "@f = 1;");
        Probe.dueFault(2, START + "@f(1);");
        Probe.dueFault(2, START + "x = @x[0];");
        Probe.dueFault(2, START + "x = @a;");
        Probe.dueFault(2, START + "x = @f;");
        Probe.dueFault(2, START + "x = @x(1);");
        Probe.dueFault(2, START + "x = @a(1);");
        Probe.dueFault(2, START + "x = @f[1];");
        Probe.dueFault(2, START + "x = f(@a);");
        Probe.dueNoFault("pub f; fun pub f(pub f) { return f; } f = f(f);");
        Probe.dueNoFault("pub f[2]; fun pub f(pub f) { return f; } f[0] = f(f[1]);");
        Probe.dueFault(2, "pub a[2]; fun pub f(pub a) { return @a[0]; }");
        Probe.dueFault(2, "pub a[2]; fun pub f() { pub a; @a[0] = 1; return 1; }");
        Probe.dueNoFault("pub a[2]; fun pub f(pub a) { return a; } a[1] = f(a[0]);");
    }

    private static void namesToldAlready() {
        Probe.dueFault(3, "pub x; sec @x;");
        Probe.dueFault(3, "pub x; sec @x[2];");
        Probe.dueFault(3, "pub x[2]; fun pub f() { return 1; } sec @x;");
        Probe.dueFault(3, "fun pub f() { return 1; } fun sec @f(pub n) { return 1; }");
        Probe.dueFault(3, "fun pub f(pub a, sec @a) { return 1; }");
        Probe.dueFault(3, "fun pub f(pub a) { pub @a; return 1; }");
        Probe.dueFault(3, "fun pub f() { pub a; sec @a; return 1; }");
        Probe.dueNoFault("pub a; fun pub f(pub a) { pub b; return 1; } fun pub g(pub a) { pub b; return 1; } pub b;");
    }

    private static void tooManyNames() {
        Probe.dueNoFault(Texts.declarations("v", 40, ""));
        Probe.dueFault(4, Texts.declarations("v", 40, "") + "sec @w;");
        Probe.dueFault(4, Texts.declarations("v", 40, "") + "sec @w[2];");
        Probe.dueFault(4, Texts.declarations("v", 40, "") + "sec @w");
        Probe.dueFault(3, Texts.declarations("v", 40, "") + "sec @v7;");
        Probe.dueFault(1, Texts.declarations("v", 40, "") + "sec @if;");
        Probe.dueNoFault("fun pub f() {" + Texts.declarations("v", 12, "") + "return v11; }");
        Probe.dueFault(4, "fun pub f() {" + Texts.declarations("v", 12, "") + "pub @w; return 1; }");
        Probe.dueFault(4, "fun pub f(pub a, pub b) {" + Texts.declarations("v", 10, "") + "pub @w; return 1; }");
        Probe.dueFault(3, "fun pub f(pub a, pub b) {" + Texts.declarations("v", 10, "") + "pub @b; return 1; }");
        Probe.dueFault(4, "fun pub f(" + Texts.parameters(12) + ", pub @w) { return 1; }");
        Probe.dueNoFault("fun pub f(" + Texts.parameters(12) + ") { return p11; }");
        Probe.dueNoFault(Texts.functions(6) + Texts.declarations("v", 40, ""));
        Probe.dueFault(4, Texts.functions(6) + "fun pub @g() { return 1; }");
        Probe.dueFault(3, Texts.functions(6) + "fun pub @f0() { return 1; }");
    }

    private static void tooDeepStatements() {
        for (String head : new String[] {"if 1 {", "while 1 {", "if 1 { } else {"}) {
            Probe.dueNoFault("pub x; " + Texts.nested(head, 9, "skip; x = 1; if x { } while x { }"));
            Probe.dueNoFault("pub x; " + Texts.nested(head, 10, ""));
            Probe.dueFault(4, "pub x; " + Texts.nested(head, 10, "@skip;"));
            Probe.dueFault(4, "pub x; " + Texts.nested(head, 10, "@x = 1;"));
            Probe.dueFault(4, "pub x; " + Texts.nested(head, 10, "@if 1 { }"));
            Probe.dueFault(4, "pub x; " + Texts.nested(head, 10, "@while 1 { }"));
            Probe.dueFault(2, "pub x; " + Texts.nested(head, 10, "@y = 1;"));
            Probe.dueFault(2, "pub x; " + Texts.nested(head, 10, "@x[0] = 1;"));
            Probe.dueFault(1, "pub x; " + Texts.nested(head, 10, "@5;"));
        }
        String deep = Texts.nested("if 1 {", 9, "x = 1;");
        Probe.dueNoFault("pub x; fun pub f() { " + deep + " return 1; } " + deep);
        Probe.dueFault(4, "pub x; fun pub f() { " + Texts.nested("if 1 {", 10, "@x = 1;") + " return 1; }");
    }

    private static void tooDeepExpressions() {
        String[][] shells = {
            {"(", ")"}, {"-", ""}, {"~", ""}, {"!", ""}, {"a[", "]"}, {"f(", ")"},
            {"1 ? ", " : 2"}, {"1 ? 2 : ", ""}, {"2 + (3 * ", ")"}};
        for (String[] shell : shells) {
            String front = Probe.repeated(shell[0], 9);
            String back = Probe.repeated(shell[1], 9);
            Probe.dueNoFault(START + "x = " + front + "1" + back + ";");
            Probe.dueFault(4, START + "x = " + front + "@(1)" + back + ";");
            Probe.dueFault(4, START + "x = " + front + "@-1" + back + ";");
            Probe.dueFault(4, START + "x = " + front + "a@[1]" + back + ";");
            Probe.dueFault(4, START + "x = " + front + "f@(1)" + back + ";");
            if (!"-~!".contains(shell[0])) {
                Probe.dueFault(4, START + "x = " + front + "1 @? 2 : 3" + back + ";");
            }
            Probe.dueFault(4, START + "if 1 { if " + Probe.repeated(shell[0], 8) + "@!1");
            Probe.dueNoFault("pub a[3]; fun pub f(pub n) { return n; } fun pub g() { return "
                    + Probe.repeated(shell[0], 10) + "1" + Probe.repeated(shell[1], 10) + "; }");
            Probe.dueFault(4, "pub a[3]; fun pub f(pub n) { return n; } fun pub g() { return "
                    + Probe.repeated(shell[0], 10) + "@-1");
        }
        Probe.dueNoFault(START + "x = " + Probe.repeated("(1) + -1 + a[1] + f(1) + (1 ? 2 : 3) + ", 12) + "1;");
        Probe.dueNoFault(START + "a[" + Probe.repeated("(", 9) + "1" + Probe.repeated(")", 9) + "] = 1;");
        Probe.dueFault(4, START + "a[" + Probe.repeated("(", 9) + "@(1)" + Probe.repeated(")", 9) + "] = 1;");
        Probe.dueNoFault(START + "x = " + Probe.repeated("-", 9) + "1 ? 2 : 3;");
        Probe.dueFault(2, START + "x = " + Probe.repeated("(", 9) + "@y[1]" + Probe.repeated(")", 9) + ";");
        Probe.dueFault(2, START + "x = " + Probe.repeated("(", 9) + "@x(1)" + Probe.repeated(")", 9) + ";");
    }

    private static void wrongCalls() {
        Probe.dueFault(5, START + "x = f(@);");
        Probe.dueFault(5, START + "x = f(1, 2@);");
        Probe.dueFault(5, START + "x = f(f(@));");
        Probe.dueFault(5, START + "x = f(f(1), (2)@);");
        Probe.dueFault(5, "fun pub g() { return 1; } pub x; x = g(1@);");
        Probe.dueNoFault("fun pub g() { return 1; } pub x; x = g( );");
        Probe.dueFault(2, START + "x = f(1, @y);");
        Probe.dueFault(1, START + "x = f(1, 2@;");
        Probe.dueFault(5, "fun pub g(" + Texts.parameters(12) + ") { return 1; } pub x; x = g("
                + Probe.repeated("1,", 10) + "1@);");
    }

    private static void theFirstOneCounts() {
        Probe.dueFault(2, "pub x; @y = 1; x = ;");
        Probe.dueFault(1, "pub x; x = @; y = 1;");
        Probe.dueFault(2, "sec s; pub p; p = s; if s { } @y = 1;");
        Probe.dueFault(1, "sec s; pub p; p = s; @$");
        Probe.dueFault(3, "sec s; pub @s; $");
    }
}
