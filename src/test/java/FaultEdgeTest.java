/** The boundary cases of the section FAULTS, numbers 1 to 5: a method for each sentence. */
public final class FaultEdgeTest {
    private static final String START = "pub x; pub a[3]; fun pub f(pub n) { return n; } ";
    private static final String[] KINDS_OF_STATEMENTS = {
        "@skip;", "@x = 1;", "@a[0] = 1;", "@if 1 { }", "@while 1 { }"};
    private static final String[][] SHELLS = {
        {"(", ")"}, {"a[", "]"}, {"f(", ")"}, {"-", ""}, {"~", ""}, {"!", ""},
        {"1 ? ", " : 2"}, {"1 ? 2 : ", ""}, {"1 + (2 * ", ")"}};

    public static void main(String[] args) {
        placeOfTheFirstCharacter();
        theFirstOneOfTheText();
        whatCantBeThere();
        orTheEnd();
        aNameThatThereIsNot();
        oneOfAnotherSort();
        toldAlready();
        declarationsBeyond40();
        declarationsBeyond12();
        functionsBeyond6();
        statementsWithin10();
        partsOfAnEWithin10();
        openUpToWhereItsEEnds();
        bracketsThatAreNoneOfAnE();
        countedAnewInAFunction();
        callsWithAnotherNumber();
        theLesserNumberCounts();
        Probe.finish();
    }

    /** "told with the place (number of its first character) of a token" */
    private static void placeOfTheFirstCharacter() {
        Probe.dueFault(2, "@long_name = 1;");
        Probe.dueFault(2, "\n\n @x = 1;");
        Probe.dueFault(1, "# x\n  @4294967296");
        Probe.dueFault(1, "pub x; x = 1 <= @== 2;");
        Probe.dueFault(1, "@else");
        QuietChecker x = new QuietChecker();
        Probe.feed(x, Probe.repeated(" ", 2999) + ";");
        Probe.due("check with a fault at the last place", x.check(), 1 + 16 * 2999);
    }

    /** "of the text the first one" */
    private static void theFirstOneOfTheText() {
        Probe.dueFault(2, "@y = ;");
        Probe.dueFault(1, "pub x; x = @; y = 1;");
        Probe.dueFault(3, "pub x; pub @x; y = 1; $");
        Probe.dueFault(5, START + "x = f(@); y = 1;");
        Probe.dueFault(2, START + "x = f(@y);");
        Probe.dueFault(2, START + "x = f(1, @y);");
        Probe.dueFault(5, START + "x = f(@) + y;");
        Probe.dueFault(2, START + "x = @y + f();");
        Probe.dueFault(1, "sec s; pub p; p = s; if s { p = 1 / s; } @}");
        Probe.dueFault(2, "@y $");
        Probe.dueFault(2, "pub x; x = @y 12z;");
    }

    /** "1 a character or token that can't be there" */
    private static void whatCantBeThere() {
        for (char c : "!\"$%&'()*+,-./:;<=>?[\\]^`{|}~0".toCharArray()) {
            Probe.dueFault(1, "@" + c);
            Probe.dueFault(1, "skip; @" + c);
        }
        for (char c : "\"$'.>\\`".toCharArray()) {
            Probe.dueFault(1, "pub x; x = @" + c + " 1;");
            Probe.dueFault(1, "pub x; x = 1@" + c + " 1;");
            Probe.dueFault(1, "pub x@" + c + ";");
        }
    }

    /** "or the end" */
    private static void orTheEnd() {
        String[] cut = {"pub@", "pub x@", "pub x[@", "pub x[2@", "pub x[2]@", "fun@", "fun pub@", "fun pub f@",
            "fun pub f(@", "fun pub f(pub@", "fun pub f(pub a@", "fun pub f(pub a,@", "fun pub f()@",
            "fun pub f() {@", "fun pub f() { pub@", "fun pub f() { pub a@", "fun pub f() { return@",
            "fun pub f() { return 1@", "fun pub f() { return 1;@", "if@", "if 1@", "if 1 {@", "if 1 { } else@",
            "if 1 { } else {@", "while@", "while 1@", "while 1 {@", "skip@"};
        for (String text : cut) {
            Probe.dueFault(1, text);
            Probe.dueFault(1, text.replace("@", " \n@"));
            Probe.dueFault(1, text.replace("@", " # ;@"));
            Probe.dueFault(1, Probe.repeated(" ", 3001 - text.length()) + text);
        }
        String[] cutE = {"x@", "x =@", "x = 1@", "x = 1 +@", "x = -@", "x = (@", "x = (1@", "x = a[@", "x = a[0@",
            "x = f(@", "x = f(1@", "x = f(1,@", "x = 1 ?@", "x = 1 ? 2@", "x = 1 ? 2 :@", "a[@", "a[0@", "a[0]@",
            "a[0] =@"};
        for (String text : cutE) {
            Probe.dueFault(1, START + text);
            Probe.dueFault(1, START + text.replace("@", " \n@"));
        }
    }

    /** "2 a name that there is not" */
    private static void aNameThatThereIsNot() {
        Probe.dueFault(2, START + "@X = 1;");
        Probe.dueFault(2, START + "@xx = 1;");
        Probe.dueFault(2, START + "@b[0] = 1;");
        Probe.dueFault(2, START + "x = 1 + @y;");
        Probe.dueFault(2, START + "x = a[@y];");
        Probe.dueFault(2, START + "x = @b[0];");
        Probe.dueFault(2, START + "x = @g(1);");
        Probe.dueFault(2, START + "x = f(@y);");
        Probe.dueFault(2, START + "a[@y] = 1;");
        Probe.dueFault(2, START + "if @y { }");
        Probe.dueFault(2, START + "while @y { }");
        Probe.dueFault(2, "fun pub f() { return @y; }");
    }

    /** "(or is one of another sort: a variable where an array must be, and so on)" */
    private static void oneOfAnotherSort() {
        for (String wrong : new String[] {"@x[0] = 1;", "@a = 1;", "@f = 1;", "@f[0] = 1;", "x = @x[0];", "x = @a;",
            "x = @f;", "x = @f[0];", "x = @x(1);", "x = @a(1);", "x = f(@a);", "x = a[@a];", "if @a { }", "@a 5"}) {
            Probe.dueFault(2, START + wrong);
        }
        Probe.dueFault(2, "fun pub f(pub n) { return @n[0]; }");
        Probe.dueFault(2, "fun pub f() { pub m; @m[0] = 1; return 1; }");
    }

    /** "3 a name that is told there already (at the top; in one function; of functions)" */
    private static void toldAlready() {
        Probe.dueFault(3, "pub x; pub @x;");
        Probe.dueFault(3, "pub x; sec @x[2];");
        Probe.dueFault(3, "pub x[2]; sec @x;");
        Probe.dueFault(3, "pub x; fun pub f(pub x) { return x; } sec @x;");
        Probe.dueFault(3, "fun pub f(pub n, sec @n) { return 1; }");
        Probe.dueFault(3, "fun pub f(pub n) { sec @n; return 1; }");
        Probe.dueFault(3, "fun pub f() { pub n; sec @n; return 1; }");
        Probe.dueFault(3, "fun pub f() { return 1; } fun sec @f() { return 1; }");
        Probe.dueNoFault("pub x; fun pub x(pub x) { return x; } fun pub y(pub x, pub y) { return x; } pub y;");
    }

    /** "4 more than may be: a declaration beyond 40 at the top (at the name)" */
    private static void declarationsBeyond40() {
        Probe.dueNoFault(Texts.declarations("v", 39, ""));
        Probe.dueNoFault(Texts.declarations("v", 40, ""));
        Probe.dueNoFault(Texts.declarations("v", 40, "[64]") + "v39[63] = 1;");
        Probe.dueFault(4, Texts.declarations("v", 40, "") + "pub @w;");
        Probe.dueFault(4, Texts.declarations("v", 40, "[64]") + "sec @w[64];");
        Probe.dueFault(4, Texts.declarations("v", 40, "") + "pub @w");
        Probe.dueNoFault(Texts.declarations("v", 20, "") + Texts.functions(6) + Texts.declarations("w", 20, "[2]"));
        Probe.dueFault(4, Texts.declarations("v", 20, "") + Texts.functions(6) + Texts.declarations("w", 20, "[2]") + "pub @z;");
        QuietChecker x = Probe.reading(Texts.declarations("v", 40, ""));
        Probe.due("declarations", x.count(0), 40);
        Probe.due("the last letter", x.letter(39, false, 2), '9');
    }

    /** "12 in a function (parameters count)" */
    private static void declarationsBeyond12() {
        for (int given = 0; given <= 12; given++) {
            String head = "fun pub f(" + Texts.parameters(given) + ") { " + Texts.declarations("v", 12 - given, "");
            Probe.dueNoFault(head + "return 1; }");
            Probe.dueFault(4, head + "pub @w; return 1; }");
        }
        Probe.dueFault(4, "fun pub f(" + Texts.parameters(12) + ", sec @w) { return 1; }");
        Probe.dueNoFault("fun pub f(" + Texts.parameters(12) + ") { return 1; } fun pub g(" + Texts.parameters(12) + ") { return 1; }");
        Probe.dueNoFault(Texts.declarations("t", 40, "") + "fun pub f() { " + Texts.declarations("v", 12, "") + "return 1; }");
    }

    /** "a function beyond 6 (all at the name)" */
    private static void functionsBeyond6() {
        Probe.dueNoFault(Texts.functions(5));
        Probe.dueNoFault(Texts.functions(6) + "pub x; x = f5();");
        Probe.dueFault(4, Texts.functions(6) + "fun sec @g() { return 1; }");
        Probe.dueFault(4, Texts.functions(6) + "fun sec @g");
        Probe.dueFault(1, Texts.functions(6) + "fun @g() { return 1; }");
        Probe.due("functions", Probe.reading(Texts.functions(6)).count(1), 6);
    }

    /** "a statement ... within 10 others of these that are open" */
    private static void statementsWithin10() {
        for (String head : new String[] {"if 1 {", "while 1 {", "if 1 { } else {"}) {
            for (String inner : KINDS_OF_STATEMENTS) {
                String fine = inner.replace("@", "");
                Probe.dueNoFault(START + Texts.nested(head, 9, fine + fine));
                Probe.dueFault(4, START + Texts.nested(head, 10, inner));
                Probe.dueFault(4, START + Texts.nested(head, 9, "skip; " + head + inner + "}"));
            }
            Probe.dueNoFault(START + Texts.nested(head, 10, "") + Texts.nested(head, 10, ""));
        }
        Probe.dueNoFault(Probe.repeated("skip;", 100));
        Probe.dueNoFault(Probe.repeated("if 1 { skip; } ", 100));
    }

    /** "a bracket ( or [ of an E, ! - ~ before one, ? and : ... within 10 others" */
    private static void partsOfAnEWithin10() {
        for (String[] shell : SHELLS) {
            String fine = Probe.repeated(shell[0], 9) + "1" + Probe.repeated(shell[1], 9);
            Probe.dueNoFault(START + "x = " + fine + ";");
            Probe.dueNoFault(START + "if " + fine + " { }");
            Probe.dueNoFault(START + "while " + fine + " { x = 1; }");
            for (String inner : new String[] {"@(1)", "a@[1]", "f@(1)", "@-1", "@~1", "@!1"}) {
                Probe.dueFault(4, START + "x = " + inside(shell, 9, inner) + ";");
                Probe.dueFault(4, START + "if " + inside(shell, 9, inner) + " { }");
                Probe.dueFault(4, START + "while 1 { x = " + inside(shell, 8, inner) + "; }");
                Probe.dueNoFault(START + "x = " + inside(shell, 8, inner.replace("@", "")) + ";");
            }
            if (!shell[1].isEmpty() || shell[0].contains("?")) {
                Probe.dueFault(4, START + "x = " + inside(shell, 9, "1 @? 2 : 3") + ";");
                Probe.dueNoFault(START + "x = " + inside(shell, 8, "1 ? 2 : 3") + ";");
            }
        }
        Probe.dueNoFault(START + "if 1 { x = -(a[f(~!(1 ? 2 : 3))]); }");
        Probe.dueFault(4, START + "if 1 { x = -(a[f(~!(1 ? @-2 : 3))]); }");
        Probe.dueFault(4, START + "if 1 { x = -(a[f(~!(1 ? 2 : @-3))]); }");
        Probe.dueNoFault(START + "if 1 { x = -(a[f(~!(-1 ? 2 : 3))]); }");
    }

    /** "(each up to where its E ends)" */
    private static void openUpToWhereItsEEnds() {
        String deep = Probe.repeated("(", 9) + "1" + Probe.repeated(")", 9);
        Probe.dueNoFault(START + "x = " + deep + " ? 1 : 2;");
        Probe.dueNoFault(START + "x = " + deep + " + " + deep + ";");
        Probe.dueNoFault(START + "x = -1 + " + deep + ";");
        Probe.dueNoFault(START + "x = a[1] + " + deep + ";");
        Probe.dueNoFault(START + "x = f(1) + " + deep + ";");
        Probe.dueNoFault(START + "x = (1) + " + deep + "; x = " + deep + ";");
        String less = Probe.repeated("(", 8) + "1" + Probe.repeated(")", 8);
        Probe.dueNoFault(START + "x = 1 ? " + less + " : " + less + ";");
        Probe.dueNoFault(START + "x = 1 ? 2 : (1 ? 2 : 3) + " + less + ";");
        Probe.dueFault(4, START + "x = 1 ? " + inside(SHELLS[0], 8, "@(1)") + " : 2;");
        Probe.dueFault(4, START + "x = 1 ? 2 : " + inside(SHELLS[0], 8, "@(1)") + ";");
        Probe.dueNoFault(START + "x = " + Probe.repeated("(1 ? 2 : 3) + ", 50) + deep + ";");
    }

    /** "a bracket ( or [ of an E": that of an array's size, of parameters or of a target is of none */
    private static void bracketsThatAreNoneOfAnE() {
        String deep = Probe.repeated("(", 9) + "1" + Probe.repeated(")", 9);
        Probe.dueNoFault(START + "a[" + deep + "] = " + deep + ";");
        Probe.dueFault(4, START + "a[" + inside(SHELLS[0], 9, "@-1") + "] = 1;");
        Probe.dueFault(4, START + "a[1] = " + inside(SHELLS[0], 9, "@-1") + ";");
    }

    /** "(in a function counted anew)" */
    private static void countedAnewInAFunction() {
        String deep = Texts.nested("if 1 {", 9, "x = 1;");
        Probe.dueNoFault("pub x; fun pub f() { " + deep + " return 1; } fun pub g() { " + deep + " return 1; } " + deep);
        Probe.dueFault(4, "pub x; fun pub f() { " + Texts.nested("if 1 {", 10, "@x = 1;") + " return 1; }");
        Probe.dueNoFault("fun pub f() { return " + inside(SHELLS[0], 10, "1") + "; }");
        Probe.dueFault(4, "fun pub f() { return " + inside(SHELLS[0], 10, "@(1)") + "; }");
        Probe.dueFault(4, "fun pub f() { return " + inside(SHELLS[0], 10, "@-1") + "; }");
        Probe.dueNoFault("fun pub f() { return " + Probe.repeated("-", 10) + "1; }");
    }

    /** "5 a call with another number of E than parameters: at the ) " */
    private static void callsWithAnotherNumber() {
        for (int due = 0; due <= 12; due++) {
            String head = "pub x; fun pub f(" + Texts.parameters(due) + ") { return 1; } x = f(";
            for (int given = Math.max(0, due - 1); given <= due + 1; given++) {
                String call = head + (given == 0 ? "" : Probe.repeated("1,", given - 1) + "1");
                Probe.dueFault(given == due ? 0 : 5, call + (given == due ? "" : "@") + ");");
            }
        }
        Probe.dueFault(5, START + "x = f(1, 2, 3, 4, 5, 6, 7, 8, 9, 10, 11, 12, 13, 14@);");
        Probe.dueFault(5, START + "x = f(f(1, 2@), 3);");
        Probe.dueFault(5, START + "x = f(f(1), 3@);");
        Probe.dueFault(5, START + "x = f( # 1\n @);");
        Probe.dueFault(1, START + "x = f(1, 2@];");
    }

    /** "Of one token the lesser number counts." */
    private static void theLesserNumberCounts() {
        Probe.dueFault(2, START + Texts.nested("if 1 {", 10, "@y = 1;"));
        Probe.dueFault(2, START + Texts.nested("if 1 {", 10, "@a = 1;"));
        Probe.dueFault(4, START + Texts.nested("if 1 {", 10, "@x 1;"));
        Probe.dueFault(1, START + Texts.nested("if 1 {", 10, "@else { }"));
        Probe.dueFault(3, Texts.declarations("v", 40, "") + "pub @v0;");
        Probe.dueFault(1, Texts.declarations("v", 40, "") + "pub @12;");
        Probe.dueFault(3, "fun pub f() { " + Texts.declarations("v", 12, "") + "pub @v11; return 1; }");
        Probe.dueFault(3, "fun pub f(" + Texts.parameters(12) + ", pub @p0) { return 1; }");
        Probe.dueFault(3, Texts.functions(6) + "fun pub @f5() { return 1; }");
        Probe.dueFault(1, START + "x = " + inside(SHELLS[0], 9, "@?"));
        Probe.dueFault(2, START + "x = " + inside(SHELLS[0], 9, "@y(1)") + ";");
        Probe.dueFault(2, START + "x = " + inside(SHELLS[0], 9, "@y[1]") + ";");
    }

    private static String inside(String[] shell, int times, String inner) {
        return Probe.repeated(shell[0], times) + inner + Probe.repeated(shell[1], times);
    }
}
