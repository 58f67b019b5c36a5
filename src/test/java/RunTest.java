/** Promise 5 with the sections VALUES and RUNNING: what is worked out, the steps and the ends. */
public final class RunTest {
    public static void main(String[] args) {
        works();
        binds();
        statements();
        functions();
        order();
        steps();
        ends();
        leavesNothingForTheNextRun();
        refuses();
        Probe.finish();
    }

    private static void e(String expression, int want) {
        Probe.dueValue(0, "pub x; pub m; m = 2147483648; x = " + expression + ";", want);
    }

    private static void works() {
        e("4294967295", -1);
        e("2147483647 + 1", Integer.MIN_VALUE);
        e("0 - 1", -1);
        e("65536 * 65536 + 65537 * 65537", 131073);
        e("7 / 2", 3);
        e("-7 / 2", -3);
        e("7 / -2", -3);
        e("-7 % 2", -1);
        e("7 % -2", 1);
        e("m / -1", Integer.MIN_VALUE);
        e("m % -1", 0);
        e("m / 1", Integer.MIN_VALUE);
        e("4294967294 / 2", -1);
        e("6 & 3", 2);
        e("6 | 3", 7);
        e("6 ^ 3", 5);
        e("~5", -6);
        e("-m", Integer.MIN_VALUE);
        e("!0", 1);
        e("!5", 0);
        e("!!m", 1);
        e("3 == 3", 1);
        e("3 == 4", 0);
        e("3 != 3", 0);
        e("3 != 4", 1);
        e("-1 < 0", 1);
        e("m < 2147483647", 1);
        e("0 < 0", 0);
        e("0 <= 0", 1);
        e("1 <= 0", 0);
        e("4294967295 <= 0", 1);
        e("1 << 31", Integer.MIN_VALUE);
        e("1 << 32", 1);
        e("1 << 33", 2);
        e("1 << -1", Integer.MIN_VALUE);
        e("m >> 31", 1);
        e("-1 >> 4", 0x0FFFFFFF);
        e("-1 >> 32", -1);
        e("-1 >> 37", 0x07FFFFFF);
        e("2 ? 3 : 4", 3);
        e("0 ? 3 : 4", 4);
        e("m ? 3 : 4", 3);
    }

    private static void binds() {
        e("1 | 2 ^ 3", 1 | 2 ^ 3);
        e("6 ^ 3 & 1", 7);
        e("1 & 2 == 2", 1);
        e("1 == 3 < 2", 0);
        e("3 < 1 << 2", 1);
        e("1 << 1 + 1", 4);
        e("1 + 2 * 3", 7);
        e("10 - 3 - 2", 5);
        e("10 - 3 + 2", 9);
        e("100 / 10 * 2", 20);
        e("2 * 7 % 4", 2);
        e("100 / 5 / 2", 10);
        e("1 << 2 << 3", 32);
        e("256 >> 2 << 1", 128);
        e("3 < 2 < 1", 1);
        e("3 < 2 <= 0", 1);
        e("5 == 5 == 1", 1);
        e("5 != 5 == 0", 1);
        e("-2 * -3", 6);
        e("-~-1", 0);
        e("!0 + 1", 2);
        e("~1 & 7", 6);
        e("0 ? 1 : 0 ? 2 : 3", 3);
        e("1 ? 0 ? 4 : 5 : 6", 5);
        e("1 | 0 ? 2 : 3", 2);
        e("(0 ? 1 : 2) + 5", 7);
        e("0 ? 1 : 2 + 5", 7);
        e("(1 + 2) * 3", 9);
        e("8 - (3 - 2)", 7);
    }

    private static void statements() {
        Probe.dueValue(0, "pub x; if 1 { x = 1; } else { x = 2; }", 1);
        Probe.dueValue(0, "pub x; if 0 { x = 1; } else { x = 2; }", 2);
        Probe.dueValue(0, "pub x; x = 5; if 0 { x = 1; }", 5);
        Probe.dueValue(0, "pub x; if 2147483648 { x = 1; }", 1);
        Probe.dueValue(0, "pub x; pub i; while i < 5 { i = i + 1; x = x + i; }", 15);
        Probe.dueValue(0, "pub x; while 0 { x = 1; }", 0);
        Probe.dueValue(0, "pub x; pub i; pub j; while i < 3 { j = 0; while j < 4 { if i == j { x = x + 10; } "
                + "else { x = x + 1; } j = j + 1; } i = i + 1; }", 39);
        Probe.dueValue(0, "pub x; pub a[3]; a[0] = 1; a[1 + 1] = a[0] + 4; x = a[2] * 10 + a[1];", 50);
    }

    private static void functions() {
        Probe.dueValue(0, "pub x; fun pub f(pub a, pub b, pub c) { return a * 100 + b * 10 + c; } x = f(1, 2, 3);", 123);
        Probe.dueValue(0, "pub x; fun pub f(pub a, pub b) { return a - b; } x = f(f(9, 1), f(5, f(3, 1)));", 5);
        Probe.dueValue(0, "pub x; fun pub f(pub a) { pub m; m = m + a; a = a + 1; return m * 10 + a; } x = f(1); x = x + f(2);", 35);
        Probe.dueValue(0, "pub x; fun pub f() { x = x + 1; return x; } x = f() + f() * 10;", 21);
        Probe.dueValue(0, "pub x; pub y; fun pub f(pub y) { y = 7; return 1; } y = 3; x = f(2); x = y;", 3);
        Probe.dueValue(0, "pub x; fun pub f(pub n) { return n + 1; } fun pub g(pub n) { pub k; k = f(n); return k * f(k); } x = g(2);", 12);
        Probe.dueValue(0, "pub x; fun pub f() { pub i; while i < 4 { i = i + 1; } return i; } x = f() * 10 + f();", 44);
        StringBuilder chain = new StringBuilder("pub x; fun pub f0(pub a) { return a + 1; } ");
        for (int k = 1; k < 6; k++) {
            chain.append("fun pub f").append(k).append("(pub a) { pub b; b = f").append(k - 1)
                    .append("(a * 2); return b + a; } ");
        }
        Probe.dueValue(0, chain + "x = f5(1);", 64);
        String twelve = "pub a, pub b, pub c, pub d, pub e, pub f, pub g, pub h, pub i, pub j, pub k, pub l";
        Probe.dueValue(0, "pub x; fun pub f(" + twelve + ") { return a + 2 * l + b * k; } "
                + "x = 1 + f(1, 2, 3, 4, 5, 6, 7, 8, 9, 10, f(1, 2, 3, 4, 5, 6, 7, 8, 9, 10, 11, 12), 12);", 120);
    }

    private static void order() {
        String start = "pub x; pub y; pub a[4]; fun pub f(pub n) { x = x * 10 + n; return n; } ";
        Probe.dueValue(0, start + "y = f(1) + f(2) * f(3);", 123);
        Probe.dueValue(0, start + "y = f(1) ? f(2) : f(3);", 123);
        Probe.dueValue(0, start + "y = f(0) ? f(2) : f(3);", 23);
        Probe.dueValue(0, start + "a[f(1)] = f(2);", 12);
        Probe.dueValue(0, start + "y = f(f(1) + f(2));", 123);
        Probe.dueValue(1, start + "x = 5; y = x + f(1);", 6);
        Probe.dueValue(1, start + "x = 5; y = f(1) + x;", 52);
        Probe.dueValue(0, start + "y = f(0) & f(2) | f(1);", 21);
    }

    private static void dueSteps(String text, int steps) {
        QuietChecker x = Probe.reading(text);
        Probe.due("end with fuel enough: " + text, x.run(steps), 0);
        Probe.due("steps: " + text, x.count(8), steps);
        if (steps > 0) {
            Probe.due("end with too little fuel: " + text, x.run(steps - 1), 1);
            Probe.due("steps with too little fuel: " + text, x.count(8), steps - 1);
            Probe.due("how it ended: " + text, x.count(9), 1);
        }
    }

    private static void steps() {
        dueSteps("", 0);
        dueSteps("pub x; fun pub f() { skip; return 1; }", 0);
        dueSteps("skip;", 1);
        dueSteps("pub x; x = 1; skip; x = 2;", 3);
        dueSteps("if 0 { skip; }", 1);
        dueSteps("if 1 { skip; } else { skip; skip; }", 2);
        dueSteps("if 0 { skip; } else { skip; skip; }", 3);
        dueSteps("while 0 { skip; }", 1);
        dueSteps("pub i; while i < 3 { i = i + 1; }", 7);
        dueSteps("pub x; fun pub f() { return 1; } x = f();", 2);
        dueSteps("pub x; fun pub f() { skip; return 1; } x = f() + f();", 5);
        dueSteps("pub x; fun pub f(pub n) { return n; } fun pub g(pub n) { skip; return f(n); } x = g(f(1));", 5);
        QuietChecker x = Probe.reading("pub x; pub y; fun pub f(pub n) { x = n; return n; } y = 7; y = f(f(5));");
        int[] values = {0, 0, 0, 0, 5, 5, 5};
        for (int fuel = 0; fuel < values.length; fuel++) {
            Probe.due("end with fuel " + fuel, x.run(fuel), fuel < 6 ? 1 : 0);
            Probe.due("x with fuel " + fuel, x.value(0, 0), values[fuel]);
            Probe.due("y with fuel " + fuel, x.value(1, 0), fuel == 0 ? 0 : fuel < 6 ? 7 : 5);
        }
    }

    private static void dueEnd(String text, int end, int steps, int x0) {
        QuietChecker x = Probe.reading(text);
        Probe.due("end of " + text, x.run(20000), end);
        Probe.due("count(9) of " + text, x.count(9), end);
        Probe.due("steps of " + text, x.count(8), steps);
        Probe.due("x behind " + text, x.value(0, 0), x0);
    }

    private static void ends() {
        dueEnd("pub x; x = 1;", 0, 1, 1);
        dueEnd("pub x; x = 1; x = 5 / 0; x = 2;", 3, 2, 1);
        dueEnd("pub x; x = 1; x = 5 % 0; x = 2;", 3, 2, 1);
        dueEnd("pub x; pub a[3]; x = 1; x = a[3]; x = 2;", 2, 2, 1);
        dueEnd("pub x; pub a[3]; x = 1; x = a[-1]; x = 2;", 2, 2, 1);
        dueEnd("pub x; pub a[3]; x = 1; a[3] = 5; x = 2;", 2, 2, 1);
        dueEnd("pub x; pub a[3]; pub b[3]; x = 1; a[2147483648] = 5; x = 2;", 2, 2, 1);
        dueEnd("pub x; pub a[3]; a[9] = 1 / 0;", 3, 1, 0);
        dueEnd("pub x; pub a[3]; a[1 / 0] = a[9];", 3, 1, 0);
        dueEnd("pub x; pub a[3]; x = 1 ? 5 : 1 / 0;", 3, 1, 0);
        dueEnd("pub x; pub a[3]; x = 0 & a[7];", 2, 1, 0);
        dueEnd("pub x; fun pub f() { x = 3; x = 1 / 0; x = 4; return 1; } x = f(); x = 5;", 3, 4, 3);
        dueEnd("pub x; while 1 { x = x + 1; }", 4, 8001, 4000);
        QuietChecker x = Probe.reading("pub x; pub y; fun pub f() { x = x + 1; return x; } y = "
                + Probe.repeated("f() + ", 400) + "0; while 1 { y = " + Probe.repeated("f() + ", 20) + "0; }");
        Probe.due("end with the most fuel", x.run(20000), 1);
        Probe.due("steps with the most fuel", x.count(8), 20000);
    }

    private static void leavesNothingForTheNextRun() {
        QuietChecker x = Probe.reading("pub x; pub d; x = 1 + 1 * (1 + 1 * (1 + 1 * (1 + 1 * (1 + 1 / d))));");
        for (int round = 0; round < 450; round++) {
            x.run(1);
        }
        Probe.due("the end of these runs", x.count(9), 3);
        x.put(1, 0, 1);
        x.run(1);
        Probe.due("value of a run behind many that broke off", x.value(0, 0), 6);
        QuietChecker y = Probe.running("pub a[3]; pub b[3]; pub c; b[64] = 5;");
        Probe.due("a cell beside an array", y.value(2, 0), 0);
        QuietChecker z = Probe.running("pub a[3]; pub b[3]; b[-64] = 5;");
        Probe.due("a cell before an array", z.value(0, 0), 0);
    }

    private static void refuses() {
        QuietChecker x = Probe.running("pub x; x = 5;");
        for (int fuel : new int[] {-1, 20001, Integer.MIN_VALUE, Integer.MAX_VALUE}) {
            Probe.throwsArgument("run(" + fuel + ")", () -> x.run(fuel));
        }
        Probe.due("the latest run stays", x.value(0, 0), 5);
        Probe.due("run(0)", x.run(0), 1);
        Probe.due("the latest run", x.value(0, 0), 0);
        QuietChecker without = Probe.reading("x");
        Probe.throwsState("run without a program", () -> without.run(5));
        Probe.throwsState("run without a program, wrong fuel", () -> without.run(-5));
    }
}
