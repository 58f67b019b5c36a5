/** Promise 3 with the sections TEXT, TOKENS, PROGRAM and E: fault 1, and what has none. */
public final class TokenFaultTest {
    public static void main(String[] args) {
        blanksAndRemarks();
        numbers();
        words();
        signs();
        programs();
        functions();
        statements();
        expressions();
        theEnd();
        anEarlierText();
        Probe.finish();
    }

    private static void blanksAndRemarks() {
        Probe.dueNoFault("");
        Probe.dueNoFault("  \n \n");
        Probe.dueNoFault("# all of this says nothing $ ) .");
        Probe.dueNoFault("pub x;x=1;if x{x=2;}else{skip;}");
        Probe.dueNoFault("pub#pub\nx # sec\n;x # y\n= 1;# ## x");
        Probe.dueFault(1, "pub x; # ;\n@;");
        Probe.dueFault(1, "pub x; x = 1 @2;");
        Probe.dueFault(1, "pub x; x @< < 2;");
        Probe.dueFault(1, "pub x; x = 1 < @< 2;");
        Probe.dueFault(1, "pub x; x = 1 <\n@<2;");
        Probe.dueFault(2, "pub xy; xy = @x\ny;");
    }

    private static void numbers() {
        Probe.dueNoFault("pub x; x = 4294967295;");
        Probe.dueNoFault("pub x; x = 000000000000000000000000004294967295;");
        Probe.dueFault(1, "pub x; x = @4294967296;");
        Probe.dueFault(1, "pub x; x = @18446744073709551617;");
        Probe.dueFault(1, "pub x; x = @1000000000000000000000000000000000000;");
        Probe.dueFault(1, "pub x; x = @1x;");
        Probe.dueFault(1, "pub x; x = @12_;");
        Probe.dueFault(1, "pub x; x = @0x1F;");
        Probe.dueNoFault("pub x; x = 12#x\n;");
        Probe.dueFault(1, "pub x; x = 1@.5;");
    }

    private static void words() {
        Probe.dueNoFault("pub abcdefghij12345; abcdefghij12345 = 1;");
        Probe.dueFault(1, "pub @abcdefghij123456;");
        Probe.dueNoFault("pub _; pub _9; pub Pub; pub IF; pub pub1; _ = _9;");
        for (String word : "pub sec fun return if else while skip".split(" ")) {
            Probe.dueFault(1, "pub @" + word + ";");
            Probe.dueFault(1, "pub x; x = @" + word + ";");
            Probe.dueFault(1, "fun pub @" + word + "() { return 0; }");
        }
        Probe.dueNoFault("pub AZaz09_; AZaz09_ = 1; ");
        Probe.dueNoFault("pub A; pub Z; pub a; pub z; A = Z; a = z;");
        Probe.dueFault(1, "@7x;");
    }

    private static void signs() {
        Probe.dueFault(1, "pub x; x = 1 @> 2;");
        Probe.dueFault(1, "pub x; x = 1 @>= 2;");
        Probe.dueFault(1, "pub x; x = 1 >>@> 2;");
        Probe.dueFault(1, "pub x; x = 1 ==@= 2;");
        Probe.dueFault(1, "pub x; x = 1 <<@= 2;");
        Probe.dueFault(1, "pub x; x = 1 <=@= 2;");
        Probe.dueNoFault("pub x; x = 1 !=!2;");
        Probe.dueNoFault("pub x; x = 1==-~!-2;");
        Probe.dueFault(1, "pub x; x @== 2;");
        for (String sign : new String[] {"$", "\"", "'", "`", "\\", "."}) {
            Probe.dueFault(1, "pub x; x = @" + sign + ";");
            Probe.dueFault(1, "@" + sign);
        }
        Probe.dueFault(1, "pub x; x = 1 & @& 1;");
        Probe.dueFault(1, "pub x; x = 1 | @| 1;");
    }

    private static void programs() {
        Probe.dueNoFault("pub a; fun pub f() { return a; } sec b; fun sec g() { return b; } a = f(); b = g();");
        Probe.dueFault(1, "pub a; skip; @pub b;");
        Probe.dueFault(1, "skip; @fun pub f() { return 1; }");
        Probe.dueFault(1, "skip; @return 1;");
        Probe.dueFault(1, "@}");
        Probe.dueFault(1, "@;");
        Probe.dueFault(1, "pub @;");
        Probe.dueFault(1, "pub a@, b;");
        Probe.dueFault(1, "pub a @= 1;");
        Probe.dueFault(1, "pub @sec a;");
        Probe.dueNoFault("pub a[1]; sec b[64]; pub c[007];");
        Probe.dueFault(1, "pub a[@0];");
        Probe.dueFault(1, "pub a[@65];");
        Probe.dueFault(1, "pub a[@4294967295];");
        Probe.dueFault(1, "pub a[@];");
        Probe.dueFault(1, "pub n; pub a[@n];");
        Probe.dueFault(1, "pub a[@-1];");
        Probe.dueFault(1, "pub a[3@;");
        Probe.dueFault(1, "pub a[3]@[3];");
    }

    private static void functions() {
        Probe.dueNoFault("fun pub f(pub a, sec b) { pub c; sec d; c = a; d = b; return c; }");
        Probe.dueFault(1, "fun @f() { return 0; }");
        Probe.dueFault(1, "fun pub f@{ return 0; }");
        Probe.dueFault(1, "fun pub f(@a) { return 0; }");
        Probe.dueFault(1, "fun pub f(pub a,@) { return 0; }");
        Probe.dueFault(1, "fun pub f(pub a @pub b) { return 0; }");
        Probe.dueFault(1, "fun pub f(pub a@[2]) { return 0; }");
        Probe.dueFault(1, "fun pub f(@, pub a) { return 0; }");
        Probe.dueFault(1, "fun pub f() @return 0;");
        Probe.dueFault(1, "fun pub f() { pub a@[2]; return 0; }");
        Probe.dueFault(1, "fun pub f() { skip; @}");
        Probe.dueFault(1, "fun pub f() { skip; @pub a; return 0; }");
        Probe.dueFault(1, "fun pub f() { return @; }");
        Probe.dueFault(1, "fun pub f() { return 0 @}");
        Probe.dueFault(1, "fun pub f() { return 0; @skip; }");
        Probe.dueFault(1, "fun pub f() { if 1 { @return 0; } return 0; }");
        Probe.dueFault(1, "fun pub f() { @fun pub g() { return 0; } return 0; }");
    }

    private static void statements() {
        Probe.dueNoFault("pub x; pub a[2]; x = 1; a[x] = 2; if x { } if x { skip; } else { } while x { x = 0; } skip;");
        Probe.dueFault(1, "pub x; x @;");
        Probe.dueFault(1, "pub x; x @5;");
        Probe.dueFault(1, "pub x; x = 5 @");
        Probe.dueFault(1, "pub x; x = 5 @x = 6;");
        Probe.dueFault(1, "pub a[2]; a[@] = 1;");
        Probe.dueFault(1, "pub a[2]; a[0@= 1;");
        Probe.dueFault(1, "pub a[2]; a[0] @;");
        Probe.dueFault(1, "skip @skip;");
        Probe.dueFault(1, "if @{ }");
        Probe.dueFault(1, "if 1 @skip;");
        Probe.dueFault(1, "if 1 { skip; @");
        Probe.dueFault(1, "if 1 { } else @if 1 { }");
        Probe.dueFault(1, "if 1 { } else { } @else { }");
        Probe.dueFault(1, "@else { }");
        Probe.dueFault(1, "while 1 { } @else { }");
        Probe.dueFault(1, "while 1 { @; }");
        Probe.dueFault(1, "@5 = 5;");
        Probe.dueFault(1, "@(5);");
    }

    private static void expressions() {
        Probe.dueNoFault("pub x; x = 1 ? 2 ? 3 : 4 : 5 ? 6 : 7;");
        Probe.dueFault(1, "pub x; x = 1 ? 2@;");
        Probe.dueFault(1, "pub x; x = 1 @: 2;");
        Probe.dueFault(1, "pub x; x = 1 ? 2 : 3 @: 4;");
        Probe.dueFault(1, "pub x; x = 1 ? 2 : @;");
        Probe.dueFault(1, "pub x; x = @;");
        Probe.dueFault(1, "pub x; x = @* 1;");
        Probe.dueFault(1, "pub x; x = @+ 1;");
        Probe.dueFault(1, "pub x; x = 1 + @;");
        Probe.dueFault(1, "pub x; x = 1 @~ 1;");
        Probe.dueFault(1, "pub x; x = 1 @! 1;");
        Probe.dueFault(1, "pub x; x = -@;");
        Probe.dueFault(1, "pub x; x = (1@;");
        Probe.dueFault(1, "pub x; x = (@);");
        Probe.dueFault(1, "pub x; x = 1@);");
        Probe.dueFault(1, "pub x; x = (1@, 2);");
        Probe.dueFault(1, "pub x; x = 1@[0];");
        Probe.dueFault(1, "pub x; x = (x)@(0);");
        Probe.dueFault(1, "pub x; x = x @x;");
        Probe.dueFault(1, "fun pub f(pub n) { return n; } pub x; x = f(1,@);");
        Probe.dueFault(1, "fun pub f(pub n) { return n; } pub x; x = f(1@;");
        Probe.dueFault(1, "fun pub f(pub n) { return n; } pub x; x = f(@, 1);");
        Probe.dueFault(1, "pub x; x = x @= 1;");
    }

    private static void theEnd() {
        Probe.dueFault(1, "pub@");
        Probe.dueFault(1, "pub x@");
        Probe.dueFault(1, "pub x; x = 1 \n @");
        Probe.dueFault(1, "pub x; x = 1 # ;@");
        Probe.dueFault(1, "fun@");
        Probe.dueFault(1, "while 1 {@");
        for (String last : new String[] {"if", "pub x", "pub x; x = 12", "pub x; x", "pub x; x = x"}) {
            Probe.dueFault(1, Probe.repeated(" ", 3000 - last.length()) + last + "@");
        }
    }

    /** What an earlier text had behind the place where this one ends must not be read. */
    private static void anEarlierText() {
        QuietChecker x = new QuietChecker();
        Probe.feed(x, "pub x; x = 1234567890123; x = abcdefghijklmnopqrstuvwxyz; skip;");
        x.check();
        Probe.feed(x, "pub x; x = 1");
        Probe.due("check of a number at the end", x.check(), 1 + 16 * 12);
        Probe.feed(x, "pub x; x = 12345; x = abc = 1; ab");
        x.check();
        Probe.feed(x, "pub x; x = 12345; x = x");
        Probe.due("check of a word at the end", x.check(), 1 + 16 * 23);
        Probe.feed(x, "skip");
        Probe.due("check", x.check(), 1 + 16 * 4);
        Probe.feed(x, "pub x; x = 1 <");
        Probe.due("check of a sign at the end", x.check(), 1 + 16 * 14);
    }
}
