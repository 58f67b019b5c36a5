/** The boundary cases of the section RUNNING: a method for each sentence. */
public final class RunningEdgeTest {
    public static void main(String[] args) {
        allAreZeroButInputs();
        statementsAreSteps();
        askingAgainIsAStep();
        callsAreSteps();
        branchesAreNoted();
        cellsAreNoted();
        whatIsMadeBehindItsParts();
        assignmentsInTheirOrder();
        variablesOfFunctionsAreZero();
        allThatMayBeStandsApart();
        endsWhenAllIsDone();
        endsOutOfFuel();
        endsOutsideAnArray();
        endsByZero();
        endsBeyond4000Notes();
        theFirstEndCounts();
        Probe.finish();
    }

    private static void dueEnd(QuietChecker x, int fuel, int end, int steps, int notes) {
        Probe.due("end with fuel " + fuel, x.run(fuel), end);
        Probe.due("count(9) with fuel " + fuel, x.count(9), end);
        Probe.due("steps with fuel " + fuel, x.count(8), steps);
        Probe.due("notes with fuel " + fuel, x.count(7), notes);
    }

    /** With just enough fuel all is done; with one less it is not. */
    private static void dueSteps(String text, int steps) {
        QuietChecker x = Probe.reading(text);
        Probe.due("end of " + text, x.run(steps), 0);
        Probe.due("steps of " + text, x.count(8), steps);
        Probe.due("end of " + text + " with more fuel", x.run(steps + 1), 0);
        Probe.due("steps of " + text + " with more fuel", x.count(8), steps);
        if (steps > 0) {
            Probe.due("end of " + text + " with less fuel", x.run(steps - 1), 1);
            Probe.due("steps of " + text + " with less fuel", x.count(8), steps - 1);
        }
    }

    /** "all variables and arrays are 0, but what inputs say" */
    private static void allAreZeroButInputs() {
        QuietChecker x = Probe.reading("pub p; sec a[64]; sec s; pub b[1]; p = 9; a[63] = 9; s = 9; b[0] = 9;");
        x.put(1, 5, 6);
        for (int fuel : new int[] {0, 9, 0}) {
            x.run(fuel);
            Probe.due("p", x.value(0, 0), fuel);
            Probe.due("a[0]", x.value(1, 0), 0);
            Probe.due("a[5]", x.value(1, 5), 6);
            Probe.due("a[63]", x.value(1, 63), fuel);
            Probe.due("s", x.value(2, 0), fuel);
            Probe.due("b[0]", x.value(3, 0), fuel);
        }
    }

    /** "A STEP is each statement begun (return is none)" */
    private static void statementsAreSteps() {
        dueSteps("", 0);
        dueSteps("pub x; sec a[64]; fun pub f() { skip; return 1; }", 0);
        dueSteps("skip;", 1);
        dueSteps("pub x; x = 1;", 1);
        dueSteps("pub a[1]; a[0] = 1;", 1);
        dueSteps("if 1 { }", 1);
        dueSteps("if 0 { } else { skip; skip; }", 3);
        dueSteps("if 1 { skip; } else { skip; skip; }", 2);
        dueSteps("pub x; fun pub f() { return 1; } x = f();", 2);
        dueSteps(Probe.repeated("skip;", 600), 600);
    }

    /** "each time that while asks again" */
    private static void askingAgainIsAStep() {
        dueSteps("while 0 { skip; }", 1);
        dueSteps("pub i; while i < 1 { i = i + 1; }", 3);
        dueSteps("pub i; while i < 2 { i = i + 1; }", 5);
        dueSteps("pub i; pub j; while i < 2 { i = i + 1; j = 0; while j < 3 { j = j + 1; } }", 1 + 2 * (1 + 2 + 7));
        String text = "while 1 { }";
        QuietChecker x = Probe.reading(text);
        dueEnd(x, 0, 1, 0, 0);
        dueEnd(x, 1, 1, 1, 1);
        dueEnd(x, 2, 1, 2, 2);
        dueEnd(x, 4000, 1, 4000, 4000);
        dueEnd(x, 4001, 4, 4001, 4000);
        dueEnd(x, 20000, 4, 4001, 4000);
    }

    /** "and each call (behind its E, ahead of what is in it)" */
    private static void callsAreSteps() {
        dueSteps("pub x; fun pub f() { skip; return 1; } x = f();", 3);
        dueSteps("pub x; fun pub f(pub n) { return n; } x = f(f(f(1)));", 4);
        dueSteps("pub x; fun pub f(pub n) { return n; } if f(0) { } while f(0) { }", 4);
        dueSteps("pub a[2]; fun pub f(pub n) { return n; } a[f(0)] = a[f(1)];", 3);
        dueSteps("pub x; fun pub f() { return 1; } fun pub g() { return f() + f(); } x = g();", 4);
        QuietChecker x = Probe.reading("pub x; pub a[9]; fun pub f(pub n) { x = n; return a[n + 1]; } a[0] = f(a[5] + 7);");
        dueEnd(x, 0, 1, 0, 0);
        dueEnd(x, 1, 1, 1, 1);
        Probe.due("the E of the call is worked before its step", x.note(0), -6);
        dueEnd(x, 2, 1, 2, 1);
        Probe.due("x ahead of what is in the call", x.value(0, 0), 0);
        dueEnd(x, 3, 0, 3, 3);
        Probe.due("x behind the call", x.value(0, 0), 7);
    }

    /** "a branch: 2 * the place of its word, + 1 if what it asks is not 0 (of while each time)" */
    private static void branchesAreNoted() {
        Probe.dueNotes("if at 0", Probe.running("if 0 { }"), 0);
        Probe.dueNotes("if at 0", Probe.running("if 1 { }"), 1);
        Probe.dueNotes("if at 0", Probe.running("if -1 { }"), 1);
        Probe.dueNotes("if at 0", Probe.running("if 2147483648 { }"), 1);
        Probe.dueNotes("if at 0", Probe.running("if 2 { } else { }"), 1);
        String last = Probe.repeated(" ", 2992) + "if 1 { }";
        Probe.dueNotes("if at 2992", Probe.running(last), 2 * 2992 + 1);
        String text = "pub i; while i < 2 { i = i + 1; }";
        Probe.dueNotes(text, Probe.running(text), 15, 15, 14);
        String never = "while 0 { }";
        Probe.dueNotes(never, Probe.running(never), 0);
        String choice = "pub x; x = 1 ? 2 : 3; skip;";
        Probe.dueNotes(choice, Probe.running(choice));
    }

    /** "a cell read or written: -1 - (64 * the number of the array, in the order told, + the cell)" */
    private static void cellsAreNoted() {
        String one = "pub a[1]; a[0] = a[0];";
        Probe.dueNotes(one, Probe.running(one), -1, -1);
        String mixed = "pub x; sec a[64]; pub y; pub b[1]; fun pub f() { return b[0]; } sec c[64]; "
                + "a[63] = 1; b[0] = 1; c[63] = a[0]; x = f(); x = y;";
        Probe.dueNotes(mixed, Probe.running(mixed), -1 - 63, -1 - 64, -1, -1 - (128 + 63), -1 - 64);
        StringBuilder many = new StringBuilder();
        for (int k = 0; k < 40; k++) {
            many.append("pub v").append(k).append("[64];");
        }
        Probe.dueNotes("40 arrays", Probe.running(many + "v39[63] = v0[63] + v38[0];"), -64, -1 - 64 * 38, -64 * 40);
    }

    /** "of E from the left to the right, what is made of something behind that" */
    private static void whatIsMadeBehindItsParts() {
        String start = "pub x; pub a[9]; ";
        String chain = start + "x = a[1] + a[2] * a[3] - (a[4] | a[5]);";
        Probe.dueNotes(chain, Probe.running(chain), -2, -3, -4, -5, -6);
        String inner = start + "x = a[a[1] + 2] + a[3];";
        Probe.dueNotes(inner, Probe.running(inner), -2, -3, -4);
        String call = start + "fun pub f(pub m, pub n) { return a[8]; } x = a[1] + f(a[2], a[3]) + a[4];";
        Probe.dueNotes(call, Probe.running(call), -2, -3, -4, -9, -5);
        String branch = start + "if a[1] + a[2] { } else { x = a[3]; }";
        Probe.dueNotes(branch, Probe.running(branch), -2, -3, 2 * branch.indexOf("if"), -4);
        Probe.dueValue(0, "pub x; pub y; fun pub f() { x = 5; return 1; } x = x + f();", 1);
        Probe.dueValue(0, "pub x; pub y; fun pub f() { x = 5; return 1; } x = f() + x;", 6);
    }

    /** "of an assignment what stands in [ ] first, then the right side, then the cell" */
    private static void assignmentsInTheirOrder() {
        String text = "pub a[9]; a[a[1] + 4] = a[2] + a[3];";
        Probe.dueNotes(text, Probe.running(text), -2, -3, -4, -5);
        QuietChecker x = Probe.running("pub x; pub a[9]; fun pub f() { x = 7; return 5; } a[x] = f();");
        Probe.due("a[0]", x.value(1, 0), 5);
        Probe.due("a[7]", x.value(1, 7), 0);
        QuietChecker y = Probe.running("pub x; pub a[9]; fun pub f() { a[3] = 7; return 5; } a[3] = f();");
        Probe.due("a[3]", y.value(1, 3), 5);
        String outside = "pub a[9]; a[9] = a[2];";
        Probe.dueNotes(outside, Probe.running(outside), -3);
    }

    /** "A function's variables are 0 when it is called, its parameters what the call gives." */
    private static void variablesOfFunctionsAreZero() {
        Probe.dueValue(0, "pub x; fun pub f() { pub m; m = m + 1; return m; } x = f() + f() * 10;", 11);
        Probe.dueValue(0, "pub x; fun pub f(pub n) { n = n + 1; return n; } x = f(1) + f(1) * 10;", 22);
        Probe.dueValue(0, "pub x; fun pub f(pub a, pub b, pub c) { return a * 100 + b * 10 + c; } x = f(f(0, 0, 1), 2, f(0, 0, 3));", 123);
        String twelve = "fun pub f(pub a, pub b, pub c, pub d, pub e, pub g) { pub h; pub i; pub j; pub k; pub l; pub m; "
                + "h = h + 1; i = i + 1; j = j + 1; k = k + 1; l = l + 1; m = m + 1; "
                + "return a + b + c + d + e + g + h + i + j + k + l + m; } ";
        Probe.dueValue(0, "pub x; " + twelve + "x = f(1, 1, 1, 1, 1, 1); x = x * 100 + f(1, 1, 1, 1, 1, 1);", 1212);
        QuietChecker x = Probe.reading("pub x; fun pub f(pub n) { pub m; m = m + n; x = m; skip; return m; } x = f(4);");
        x.run(4);
        x.run(9);
        Probe.due("a variable behind a run that broke off", x.value(0, 0), 4);
    }

    /** "40 at the top, 12 in a function ..., a function beyond 6": with all of these, none touches another */
    private static void allThatMayBeStandsApart() {
        StringBuilder text = new StringBuilder();
        for (int k = 0; k < 40; k++) {
            text.append("pub v").append(k).append(k == 0 ? ";" : "[64];");
        }
        for (int f = 0; f < 6; f++) {
            text.append("fun pub f").append(f).append("(pub a,pub b){");
            for (char c = 'c'; c <= 'l'; c++) {
                text.append("pub ").append(c).append(';');
            }
            for (char c = 'c'; c <= 'l'; c++) {
                text.append(c).append("=b+").append(c).append("+1;");
            }
            text.append(f == 0 ? "b=0;" : "b=f" + (f - 1) + "(a,b+1);").append("return a+b+c+d+e+f+g+h+i+j+k+l;}");
        }
        text.append("v0=f5(1,2);");
        QuietChecker x = Probe.reading(text.toString());
        Probe.due("fault", x.count(5), 0);
        for (int k = 1; k < 40; k += 19) {
            x.put(k, 0, k);
            x.put(k, 63, -k);
        }
        Probe.due("end", x.run(20000), 0);
        int want = 0;
        for (int b = 7; b >= 2; b--) {
            want += 1 + 10 * (b + 1);
        }
        Probe.due("what the functions made", x.value(0, 0), want);
        for (int k = 1; k < 40; k += 19) {
            Probe.due("the first cell of " + k, x.value(k, 0), k);
            Probe.due("the last cell of " + k, x.value(k, 63), -k);
        }
        for (int i = 1; i < 63; i++) {
            Probe.due("cell " + i + " of the last array", x.value(39, i), 0);
        }
    }

    /** "0 all is done" */
    private static void endsWhenAllIsDone() {
        dueEnd(Probe.reading(""), 0, 0, 0, 0);
        dueEnd(Probe.reading("pub x;"), 0, 0, 0, 0);
        dueEnd(Probe.reading("skip;"), 1, 0, 1, 0);
        dueEnd(Probe.reading("skip;"), 20000, 0, 1, 0);
    }

    /** "1 out of fuel (a step would be one more than there may be)" */
    private static void endsOutOfFuel() {
        QuietChecker x = Probe.reading("pub x; x = 1; x = 2; x = 3;");
        for (int fuel = 0; fuel < 3; fuel++) {
            dueEnd(x, fuel, 1, fuel, 0);
            Probe.due("x with fuel " + fuel, x.value(0, 0), fuel);
        }
        dueEnd(x, 3, 0, 3, 0);
        QuietChecker branch = Probe.reading("if 1 { skip; }");
        dueEnd(branch, 0, 1, 0, 0);
        dueEnd(branch, 1, 1, 1, 1);
        dueEnd(branch, 2, 0, 2, 1);
        StringBuilder many = new StringBuilder("pub x; pub i; fun pub f() { x = x + 1; return 0; } while i < 499 { i = i + 1; x = 0");
        many.append(Probe.repeated("+ f()", 19)).append("; }");
        QuietChecker most = Probe.reading(many.toString());
        int steps = 1 + 499 * (2 + 2 * 19 + 1);
        dueEnd(most, 20000, 1, 20000, 488);
        QuietChecker exact = Probe.reading(many.toString().replace("499", "487"));
        dueEnd(exact, 1 + 487 * 41, 0, 1 + 487 * 41, 488);
        dueEnd(exact, 487 * 41, 1, 487 * 41, 487);
        Probe.due("whether it needs more than the most fuel", steps > 20000, true);
    }

    /** "2 a cell outside its array (nothing noted for it)" */
    private static void endsOutsideAnArray() {
        for (int size : new int[] {1, 2, 63, 64}) {
            QuietChecker read = Probe.reading("pub x; pub i; pub b[64]; pub a[" + size + "]; pub c[64]; x = 5; x = a[i]; x = 6;");
            QuietChecker write = Probe.reading("pub x; pub i; pub b[64]; pub a[" + size + "]; pub c[64]; x = 5; a[i] = 1; x = 6;");
            for (QuietChecker x : new QuietChecker[] {read, write}) {
                for (int i : new int[] {0, size - 1}) {
                    x.put(1, 0, i);
                    dueEnd(x, 9, 0, 3, 1);
                    Probe.due("note of cell " + i, x.note(0), -1 - 64 - i);
                }
                for (int i : new int[] {size, size + 1, 64, 128, -1, -64, Integer.MAX_VALUE, Integer.MIN_VALUE}) {
                    x.put(1, 0, i);
                    dueEnd(x, 9, 2, 2, 0);
                    Probe.due("x", x.value(0, 0), 5);
                    Probe.due("the last cell in front", x.value(2, 63), 0);
                    Probe.due("the first cell behind", x.value(4, 0), 0);
                }
            }
        }
    }

    /** "3 / or % by 0 (of -2^31 by -1 they are -2^31 and 0)" */
    private static void endsByZero() {
        for (String sign : new String[] {"/", "%"}) {
            QuietChecker x = Probe.reading("pub x; pub p; pub q; x = 5; x = p " + sign + " q; skip;");
            for (int p : new int[] {0, 1, -1, Integer.MIN_VALUE, Integer.MAX_VALUE}) {
                x.put(1, 0, p);
                x.put(2, 0, 0);
                dueEnd(x, 9, 3, 2, 0);
                Probe.due("x", x.value(0, 0), 5);
                x.put(2, 0, 1);
                dueEnd(x, 9, 0, 3, 0);
            }
            x.put(1, 0, Integer.MIN_VALUE);
            x.put(2, 0, -1);
            dueEnd(x, 9, 0, 3, 0);
            Probe.due("-2^31 " + sign + " -1", x.value(0, 0), sign.equals("/") ? Integer.MIN_VALUE : 0);
        }
    }

    /** "4 a note beyond 4000" */
    private static void endsBeyond4000Notes() {
        String loop = "pub i; pub x; pub a[2]; while i < 1999 { i = i + 1; a[1] = i; } ";
        dueEnd(Probe.reading(loop), 20000, 0, 1 + 1999 * 3, 3999);
        dueEnd(Probe.reading(loop + "x = a[1]; skip;"), 20000, 0, 3 + 1999 * 3, 4000);
        QuietChecker read = Probe.reading(loop + "x = 5; x = a[1]; x = a[1]; x = 6;");
        dueEnd(read, 20000, 4, 4 + 1999 * 3, 4000);
        Probe.due("x behind a cell that was noted", read.value(1, 0), 1999);
        QuietChecker write = Probe.reading(loop + "a[0] = 7; a[0] = 8; x = 6;");
        dueEnd(write, 20000, 4, 3 + 1999 * 3, 4000);
        Probe.due("x", write.value(1, 0), 0);
        QuietChecker branch = Probe.reading(loop + "if 1 { if 1 { x = 6; } }");
        dueEnd(branch, 20000, 4, 3 + 1999 * 3, 4000);
        Probe.due("x", branch.value(1, 0), 0);
        QuietChecker again = Probe.reading(loop + "while 1 { x = x + 1; }");
        dueEnd(again, 20000, 4, 4 + 1999 * 3, 4000);
        Probe.due("x", again.value(1, 0), 1);
        Probe.due("note 3999", again.note(3999), 2 * loop.length() + 1);
    }

    /** "In the order in which it is done": of several ends the one that is met first */
    private static void theFirstEndCounts() {
        String start = "pub x; pub a[2]; fun pub f(pub n) { return n; } ";
        dueEnd(Probe.reading(start + "x = a[2] + 1 / 0;"), 9, 2, 1, 0);
        dueEnd(Probe.reading(start + "x = 1 / 0 + a[2];"), 9, 3, 1, 0);
        dueEnd(Probe.reading(start + "a[2] = 1 / 0;"), 9, 3, 1, 0);
        dueEnd(Probe.reading(start + "a[1 / 0] = a[2];"), 9, 3, 1, 0);
        dueEnd(Probe.reading(start + "a[a[2]] = 1 / 0;"), 9, 2, 1, 0);
        dueEnd(Probe.reading(start + "x = f(1 / 0);"), 1, 3, 1, 0);
        dueEnd(Probe.reading(start + "x = f(1) / 0;"), 1, 1, 1, 0);
        dueEnd(Probe.reading(start + "x = 1 / 0; skip;"), 1, 3, 1, 0);
        dueEnd(Probe.reading(start + "x = 0 / a[0];"), 1, 3, 1, 1);
        String full = "pub i; pub x; pub a[2]; while i < 3999 { i = i + 1; } ";
        dueEnd(Probe.reading(full + "x = a[2];"), 20000, 2, 2 + 3999 * 2, 4000);
        dueEnd(Probe.reading(full + "x = 1 / a[1];"), 20000, 4, 2 + 3999 * 2, 4000);
        dueEnd(Probe.reading(full + "if 1 / 0 { }"), 20000, 3, 2 + 3999 * 2, 4000);
        dueEnd(Probe.reading(full + "if 1 { }"), 1 + 3999 * 2, 1, 1 + 3999 * 2, 4000);
    }
}
