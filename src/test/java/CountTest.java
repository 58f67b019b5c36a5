/** Promise 10. */
public final class CountTest {
    public static void main(String[] args) {
        countsTheProgram();
        countsTheRun();
        countsFaults();
        answersNoneForOthers();
        Probe.finish();
    }

    private static void dueCounts(QuietChecker x, int... due) {
        for (int what = 0; what < due.length; what++) {
            Probe.due("count(" + what + ")", x.count(what), due[what]);
        }
    }

    private static void countsTheProgram() {
        QuietChecker x = Probe.reading("pub a; sec b; sec c[4]; pub d[1]; sec e; "
                + "fun pub f(sec n) { sec m; m = n; if 1 { skip; } return 1; } fun sec g() { return 2; } "
                + "a = 1; if a { b = 1; skip; } else { while a { a = 0; } } skip;");
        dueCounts(x, 5, 2, 3, 2, 10, 0, 1, -1, -1, -1, 0);
        StringBuilder many = new StringBuilder();
        for (int k = 0; k < 40; k++) {
            many.append("sec v").append(k).append("[2];");
        }
        dueCounts(Probe.reading(many.toString()), 40, 0, 40, 40, 0, 0, 1);
        String publicOnes = many.toString().replace("sec", "pub");
        dueCounts(Probe.reading(publicOnes.replace("pub v39[2]", "sec v39")), 40, 0, 1, 39, 0, 0, 1);
    }

    private static void countsTheRun() {
        QuietChecker x = Probe.reading("pub a[2]; pub i; while i < 3 { a[i] = 1; i = i + 1; }");
        x.run(20);
        dueCounts(x, 2, 0, 0, 1, 3, 0, 1, 5, 8, 2, 0);
        x.run(2);
        dueCounts(x, 2, 0, 0, 1, 3, 0, 1, 2, 2, 1, 0);
        Probe.feed(x, "pub");
        dueCounts(x, 2, 0, 0, 1, 3, 0, 1, 2, 2, 1, 3);
        x.check();
        dueCounts(x, 0, 0, 0, 0, 0, 1, 0, -1, -1, -1, 0);
    }

    private static void countsFaults() {
        QuietChecker x = new QuietChecker();
        String[] texts = {"skip;", "$", "x=1;", "pub x; pub x;", Probe.repeated("if 1{", 11),
            "fun pub f() { return 1; } pub x; x = f(1);", "sec s; if s {}", "sec s[2]; s[s[0]] = 1;",
            "sec s; pub p; p = s;", "sec s; s = s / s;", ""};
        for (int k = 0; k < texts.length; k++) {
            Probe.feed(x, texts[k]);
            Probe.due("fault of the check before", x.count(5), k == 0 ? 0 : k - 1);
            x.check();
            Probe.due("fault of " + texts[k], x.count(5), k % 10);
            Probe.due("whether there is a program of " + texts[k], x.count(6), k >= 1 && k <= 5 ? 0 : 1);
        }
    }

    private static void answersNoneForOthers() {
        QuietChecker x = Probe.running("pub x; x = 1;");
        for (int what : new int[] {-1, 11, 12, 100, Integer.MIN_VALUE, Integer.MAX_VALUE}) {
            Probe.due("count(" + what + ")", x.count(what), QuietChecker.NONE);
        }
    }
}
