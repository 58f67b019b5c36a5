/** The boundary cases of the sections PROGRAM, E and NAMES: a method for each sentence. */
public final class ProgramEdgeTest {
    public static void main(String[] args) {
        mixedThenStatementsToTheEnd();
        perhapsANumber();
        oneTo64Cells();
        perhapsParameters();
        noArraysInFunctions();
        returnAtTheEnd();
        blocksAndPerhapsElse();
        onceAChoice();
        fromThoseThatBindLeast();
        fromTheLeft();
        againAndAgain();
        perhapsE();
        hiding();
        functionsHaveNamesOfTheirOwn();
        knownFromWhereItIsToldOn();
        wholeBeforeIt();
        nothingOfAnEarlierProgram();
        Probe.finish();
    }

    /** "PROGRAM: DECLARATIONS and FUNCTIONS, mixed, then STATEMENTS, to the end" */
    private static void mixedThenStatementsToTheEnd() {
        Probe.dueNoFault("");
        Probe.dueNoFault("pub x;");
        Probe.dueNoFault("fun pub f() { return 1; }");
        Probe.dueNoFault("skip;");
        Probe.dueNoFault("fun pub f() { return 1; } pub x; fun pub g() { return x; } sec y; x = f();");
        Probe.dueFault(1, "skip; @pub x;");
        Probe.dueFault(1, "skip; @sec x;");
        Probe.dueFault(1, "skip; @fun pub f() { return 1; }");
        Probe.dueFault(1, "if 1 { @pub x; }");
        Probe.dueFault(1, "skip; @}");
        Probe.dueFault(1, "skip; @return 1;");
        Probe.dueFault(1, "@return 1;");
        Probe.dueFault(1, "skip;@;");
        Probe.dueFault(1, "@{ skip; }");
    }

    /** "A declaration: pub or sec, a name, perhaps [ number ], ; " and "without a number ... is a VARIABLE" */
    private static void perhapsANumber() {
        Probe.dueNoFault("pub x; x = 1;");
        Probe.dueNoFault("pub x[1]; x[0] = 1;");
        Probe.dueFault(2, "pub x[1]; @x = 1;");
        Probe.dueFault(2, "pub x; @x[0] = 1;");
        Probe.dueFault(1, "pub x[@];");
        Probe.dueFault(1, "pub x[@-1];");
        Probe.dueFault(1, "pub x[1@+1];");
        Probe.dueFault(1, "pub x[@(1)];");
        Probe.dueFault(1, "pub x[1@;");
        Probe.dueFault(1, "pub x[1]@");
        Probe.dueFault(1, "pub x@]");
        Probe.dueFault(1, "pub x@(1);");
        QuietChecker x = Probe.reading("pub x; pub y[1];");
        Probe.due("arrays", x.count(3), 1);
    }

    /** "(an ARRAY of 1 .. 64 cells)" */
    private static void oneTo64Cells() {
        for (String fine : new String[] {"1", "2", "63", "64", "064", "0000000000001"}) {
            Probe.dueNoFault("pub a[" + fine + "];");
        }
        for (String wrong : new String[] {"0", "00", "65", "66", "128", "2147483647", "2147483648",
            "4294967295", "4294967232", "4294967297"}) {
            Probe.dueFault(1, "pub a[@" + wrong + "];");
            Probe.dueFault(1, "sec a[@" + wrong);
        }
        QuietChecker one = Probe.reading("sec a[1];");
        one.put(0, 0, 5);
        Probe.throwsIndex("put beyond one cell", () -> one.put(0, 1, 5));
        QuietChecker most = Probe.reading("sec a[64];");
        most.put(0, 63, 5);
        Probe.throwsIndex("put beyond 64 cells", () -> most.put(0, 64, 5));
    }

    /** "( perhaps PARAMETERS, each pub or sec and a name, with , between )" */
    private static void perhapsParameters() {
        Probe.dueNoFault("pub x; fun pub f() { return 1; } x = f();");
        Probe.dueNoFault("pub x; fun pub f(pub a) { return a; } x = f(1);");
        Probe.dueNoFault("pub x; fun pub f(pub a, sec b) { return a; } x = f(1, 2);");
        Probe.dueFault(1, "fun pub f(@,) { return 1; }");
        Probe.dueFault(1, "fun pub f(pub a,@) { return 1; }");
        Probe.dueFault(1, "fun pub f(pub a,@, pub b) { return 1; }");
        Probe.dueFault(1, "fun pub f(pub a @sec b) { return 1; }");
        Probe.dueFault(1, "fun pub f(pub a, @b) { return 1; }");
        Probe.dueFault(1, "fun pub f(@a) { return 1; }");
        Probe.dueFault(1, "fun pub f(pub@) { return 1; }");
        Probe.dueFault(1, "fun pub f(pub @pub a) { return 1; }");
        Probe.dueFault(1, "fun pub f(@fun pub g) { return 1; }");
        Probe.dueFault(1, "fun pub f(@1) { return 1; }");
        Probe.dueFault(1, "fun @fun f() { return 1; }");
        Probe.dueFault(1, "fun pub f@; ");
    }

    /** "{ declarations (no arrays), statements, ..." */
    private static void noArraysInFunctions() {
        Probe.dueFault(1, "fun pub f() { pub a@[1]; return 1; }");
        Probe.dueFault(1, "fun pub f(pub a@[1]) { return 1; }");
        Probe.dueFault(1, "fun pub f() { skip; @pub a; return 1; }");
        Probe.dueFault(1, "fun pub f() { @fun pub g() { return 1; } return 1; }");
        Probe.dueFault(1, "fun pub f() { pub a@, pub b; return 1; }");
        Probe.dueNoFault("fun pub f() { return 1; } fun pub g() { pub a; return 1; }");
        Probe.dueNoFault("fun pub f() { skip; return 1; } fun pub g() { pub a; skip; return 1; }");
    }

    /** "return E ; }" */
    private static void returnAtTheEnd() {
        Probe.dueFault(1, "fun pub f() { @}");
        Probe.dueFault(1, "fun pub f() { skip; @}");
        Probe.dueFault(1, "fun pub f() { return @; }");
        Probe.dueFault(1, "fun pub f() { return 1@}");
        Probe.dueFault(1, "fun pub f() { return 1; @return 1; }");
        Probe.dueFault(1, "fun pub f() { return 1; @skip; }");
        Probe.dueFault(1, "fun pub f() { return 1;@");
        Probe.dueFault(1, "fun pub f() { while 1 { @return 1; } return 1; }");
        Probe.dueFault(1, "fun pub f() { return 1; }@;");
    }

    /** "if E { statements } perhaps else { statements }, or while E { statements }, or skip ;" */
    private static void blocksAndPerhapsElse() {
        Probe.dueNoFault("if 1 { }");
        Probe.dueNoFault("if 1 { } else { }");
        Probe.dueNoFault("if 1 { skip; skip; } else { skip; skip; }");
        Probe.dueNoFault("while 1 { }");
        Probe.dueFault(1, "if 1 @;");
        Probe.dueFault(1, "if 1 { } else @;");
        Probe.dueFault(1, "if 1 { } else { } @else { }");
        Probe.dueFault(1, "if 1 { } else @if 1 { }");
        Probe.dueFault(1, "while 1 { } @else { }");
        Probe.dueFault(1, "if @{ }");
        Probe.dueFault(1, "while @{ }");
        Probe.dueFault(1, "if 1 { @else { }");
        Probe.dueFault(1, "skip@");
        Probe.dueFault(1, "skip @1;");
        Probe.dueValue(0, "pub x; if 0 { if 1 { x = 1; } } else { x = 2; }", 2);
        Probe.dueValue(0, "pub x; if 1 { if 0 { x = 1; } else { x = 2; } }", 2);
    }

    /** "A ? E : E (once, A being what follows here)" */
    private static void onceAChoice() {
        Probe.dueValue(0, "pub x; x = 0 ? 1 : 0 ? 2 : 3;", 3);
        Probe.dueValue(0, "pub x; x = 1 ? 0 ? 4 : 5 : 6;", 5);
        Probe.dueValue(0, "pub x; x = (1 ? 0 : 1) ? 7 : 8;", 8);
        Probe.dueValue(0, "pub x; x = 1 ? 2 : 3 | 4;", 2);
        Probe.dueValue(0, "pub x; x = 0 | 0 ? 2 : 3;", 3);
        Probe.dueFault(1, "pub x; x = 1 ? 2 ? 3 : 4@;");
        Probe.dueFault(1, "pub x; x = 1 ? 2@;");
        Probe.dueFault(1, "pub x; x = 1 ? 2 : 3 @: 4;");
        Probe.dueFault(1, "pub x; x = 1 ? @: 3;");
        Probe.dueFault(1, "pub x; x = 1 ? 2 : @;");
        Probe.dueFault(1, "pub x; x = @? 2 : 3;");
        Probe.dueFault(1, "pub x; x = (1 ? 2@) : 3;");
    }

    /** "from those that bind least: ... | ; ^ ; & ; == != ; < <= ; << >> ; + - ; * / % ; of one sort from the left" */
    private static void fromThoseThatBindLeast() {
        String[][] sorts = {{"|"}, {"^"}, {"&"}, {"==", "!="}, {"<", "<="}, {"<<", ">>"}, {"+", "-"}, {"*", "/", "%"}};
        int alikeEitherWay = 0;
        for (int one = 0; one < sorts.length; one++) {
            for (int two = 0; two < sorts.length; two++) {
                for (String first : sorts[one]) {
                    for (String second : sorts[two]) {
                        alikeEitherWay += dueBinding(first, second, one >= two) ? 0 : 1;
                    }
                }
            }
        }
        // Twice the same of | ^ & + *; and + before -, * before <<, % before ==.
        Probe.due("pairs of signs that tell nothing", alikeEitherWay, 8);
    }

    /** Whether it makes a difference which of the two binds more. */
    private static boolean dueBinding(String first, String second, boolean leftFirst) {
        String bare = "p " + first + " q " + second + " r";
        String left = "(p " + first + " q) " + second + " r";
        String right = "p " + first + " (q " + second + " r)";
        QuietChecker x = Probe.reading("pub p; pub q; pub r; pub x; pub y; pub z; y = " + left + "; z = " + right
                + "; x = " + bare + ";");
        int different = 0;
        for (int v = 0; v < 64; v++) {
            x.put(0, 0, v % 4 * 3 + 1);
            x.put(1, 0, v / 4 % 4 * 2 + 1);
            x.put(2, 0, v / 16 + 1);
            if (x.run(3) == 0) {
                Probe.due(bare, x.value(3, 0), x.value(leftFirst ? 4 : 5, 0));
                different += x.value(4, 0) != x.value(5, 0) ? 1 : 0;
            }
        }
        return different > 0;
    }

    /** "of one sort from the left" */
    private static void fromTheLeft() {
        Probe.dueValue(0, "pub x; x = 9 - 4 - 3 + 1;", 3);
        Probe.dueValue(0, "pub x; x = 100 / 7 % 4 * 5;", 10);
        Probe.dueValue(0, "pub x; x = 1 << 3 >> 1 << 2;", 16);
        Probe.dueValue(0, "pub x; x = 5 < 4 <= 0 < 2;", 1);
        Probe.dueValue(0, "pub x; x = 2 == 2 != 1 == 0;", 1);
        Probe.dueValue(0, "pub x; x = 3 == 3 == 3;", 0);
    }

    /** "then - ~ ! before one, again and again" */
    private static void againAndAgain() {
        Probe.dueValue(0, "pub x; x = ---5;", -5);
        Probe.dueValue(0, "pub x; x = ~~5;", 5);
        Probe.dueValue(0, "pub x; x = !!!5;", 0);
        Probe.dueValue(0, "pub x; x = -~!5;", 1);
        Probe.dueValue(0, "pub x; x = 3---2;", 1);
        Probe.dueValue(0, "pub x; x = -3 * -2;", 6);
        Probe.dueFault(1, "pub x; x = 1 @~ 2;");
        Probe.dueFault(1, "pub x; x = -@;");
        Probe.dueFault(1, "pub x; x = 1 - @* 2;");
        Probe.dueFault(1, "pub x; x = @+1;");
    }

    /** "name ( perhaps E with , between ), ( E )" */
    private static void perhapsE() {
        String start = "pub x; pub a[2]; fun pub f() { return 7; } fun pub g(pub m, pub n) { return m * 10 + n; } ";
        Probe.dueValue(0, start + "x = f();", 7);
        Probe.dueValue(0, start + "x = g(1, 2);", 12);
        Probe.dueValue(0, start + "x = g(0 ? 1 : 2, 1 ? 3 : 4);", 23);
        Probe.dueFault(1, start + "x = g(1,@);");
        Probe.dueFault(1, start + "x = g(@,1);");
        Probe.dueFault(1, start + "x = g(1 @2);");
        Probe.dueFault(1, start + "x = g(1, 2@];");
        Probe.dueFault(1, start + "x = (@);");
        Probe.dueFault(1, start + "x = (1@, 2);");
        Probe.dueFault(1, start + "x = a[@];");
        Probe.dueFault(1, start + "x = a[0@, 1];");
        Probe.dueFault(1, start + "x = a[0@);");
        Probe.dueFault(1, start + "x = a[0]@[1];");
        Probe.dueFault(1, start + "x = f()@();");
        Probe.dueFault(1, start + "x = 5@(1);");
    }

    /** "one of a function hides one of the top" */
    private static void hiding() {
        Probe.dueValue(0, "pub x; fun pub f() { pub x; x = 5; return x; } x = 1; x = x * 10 + f();", 15);
        Probe.dueValue(0, "pub x; fun pub f(pub x) { x = x + 1; return x; } x = 1; x = f(7) * 10 + x;", 81);
        Probe.dueFault(2, "pub a[2]; fun pub f() { pub a; return @a[0]; }");
        Probe.dueNoFault("pub a[2]; fun pub f() { pub a; return a; } fun pub g() { return a[0]; } a[0] = 1;");
        Probe.dueFault(8, "pub p; fun pub f(sec p) { @return p; }");
        Probe.dueNoFault("sec s; fun pub f(pub s) { return s; }");
        Probe.dueFault(8, "pub p; fun sec f(sec p) { return p; } p @= f(1);");
        Probe.dueNoFault("pub p; fun pub f(sec p) { return 1; } p = p;");
    }

    /** "Functions have names of their own" */
    private static void functionsHaveNamesOfTheirOwn() {
        Probe.dueValue(0, "pub f; fun pub f(pub f) { return f + 1; } f = 4; f = f(f);", 5);
        Probe.dueNoFault("pub f[3]; fun pub f(pub g) { return f[g]; } fun pub g() { pub f; return f(f); }");
        Probe.dueNoFault("fun pub f() { return 1; } pub f;");
        Probe.dueFault(2, "fun pub f() { return 1; } pub x; x = @f;");
        Probe.dueFault(2, "fun pub f() { return 1; } pub x; x = @f[0];");
        Probe.dueFault(2, "pub x; x = @x();");
        Probe.dueFault(2, "fun pub f(pub n) { return @n(1); }");
    }

    /** "A name is known from where it is told on" */
    private static void knownFromWhereItIsToldOn() {
        Probe.dueFault(2, "fun pub f() { return @x; } pub x;");
        Probe.dueFault(2, "fun pub f() { return @a[0]; } pub a[1];");
        Probe.dueFault(2, "fun pub f() { @x = 1; return 1; } pub x;");
        Probe.dueNoFault("pub x; fun pub f() { x = 1; return x; }");
        Probe.dueFault(2, "fun pub f(pub n) { return n; } fun pub g() { return @n; }");
        Probe.dueFault(2, "fun pub f() { pub m; return m; } pub x; x = @m;");
        Probe.dueFault(2, "fun pub f(pub n) { return n; } @n = 1;");
    }

    /** "A name is known from where it is told on": what an earlier text told is not known in the next */
    private static void nothingOfAnEarlierProgram() {
        String[] earlier = {
            "pub x; sec a[3]; fun sec f(sec n) { sec m; return n; } x = 1;",
            "pub x; sec a[3]; fun sec f(sec n) { sec m; return n; } fun sec g(sec n) { sec m; m = $",
            "pub x; sec a[3]; fun sec f(sec n, sec m"};
        String[] next = {"x = 1;", "a[0] = 1;", "n = 1;", "m = 1;", "pub y; y = n;", "pub y; y = m;", "pub y; y = f(1);",
            "fun pub h() { return n; }", "fun pub h() { return f(1); }"};
        int[] due = {0, 0, 0, 0, 11, 11, 11, 21, 21};
        for (String text : earlier) {
            QuietChecker x = Probe.reading(text);
            for (int k = 0; k < next.length; k++) {
                Probe.feed(x, next[k]);
                Probe.due("check of " + next[k] + " behind " + text, x.check(), 2 + 16 * due[k]);
            }
            QuietChecker y = Probe.reading(text);
            Probe.feed(y, "pub n; pub m[2]; n = 5; m[1] = n;");
            Probe.due("check of names that only a function had", y.check(), 0);
            y.run(9);
            Probe.due("value", y.value(1, 1), 5);
        }
    }

    /** "a function may call those that stand whole before it" */
    private static void wholeBeforeIt() {
        Probe.dueNoFault("fun pub f() { return 1; } fun pub g() { return f(); } fun pub h() { return f() + g(); }");
        Probe.dueFault(2, "fun pub f() { return @f(); }");
        Probe.dueFault(2, "fun pub f() { pub m; m = @f(); return m; }");
        Probe.dueFault(2, "fun pub f() { return @g(); } fun pub g() { return 1; }");
        Probe.dueFault(2, "fun pub f(pub n) { return n + @f(n - 1); }");
    }
}
