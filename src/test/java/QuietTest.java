import java.util.Random;

/** What the checker lets through shows the same whatever the secrets are; and no text upsets it. */
public final class QuietTest {
    private static final String[] PIECES = {
        "s", "t[0]", "t[p & 3]", "p", "a[1]", "1", "7", "hide(p)", "show(s, p)", "s", "p", "i"};
    private static final String[] SIGNS = {
        "|", "^", "&", "==", "!=", "<", "<=", "<<", ">>", "+", "-", "*", "/", "%"};

    private final Random random = new Random(20261116);

    public static void main(String[] args) {
        QuietTest test = new QuietTest();
        test.whatIsLetThroughIsQuiet();
        test.noTextUpsetsIt();
        Probe.finish();
    }

    private void whatIsLetThroughIsQuiet() {
        int quiet = 0;
        for (int round = 0; round < 20000; round++) {
            String text = program();
            QuietChecker x = new QuietChecker();
            Probe.feed(x, text);
            int answer = x.check();
            Probe.due("whether there is a program of " + text, x.count(6), 1);
            x.put(0, 0, random.nextInt());
            x.put(1, 0, random.nextInt(3));
            int end = x.run(60);
            Probe.due("end of " + text, x.count(9), end);
            if (answer == 0) {
                quiet++;
                Probe.due("twin of " + text, x.twin(random.nextInt()), QuietChecker.NONE);
            }
        }
        Probe.due("whether enough programs were let through", quiet > 1000, true);
    }

    private void noTextUpsetsIt() {
        for (int round = 0; round < 20000; round++) {
            StringBuilder text = new StringBuilder(program());
            for (int k = random.nextInt(4); k >= 0; k--) {
                int at = random.nextInt(text.length());
                char c = (char) (32 + random.nextInt(95));
                if (random.nextBoolean()) {
                    text.deleteCharAt(at);
                } else {
                    text.insert(at, c);
                }
            }
            QuietChecker x = Probe.reading(text.toString());
            int fault = x.count(5);
            Probe.due("a fault's number", fault >= 0 && fault <= 9, true);
            Probe.due("whether there is a program of " + text, x.count(6), fault >= 1 && fault <= 5 ? 0 : 1);
            if (x.count(6) == 1) {
                x.run(random.nextInt(200));
                x.twin(random.nextInt());
            }
        }
    }

    private String program() {
        StringBuilder text = new StringBuilder("sec s; pub p; sec t[4]; pub a[4]; pub i; "
                + "fun sec hide(pub n) { return n * 3; } fun pub show(sec n, pub m) { return m + 1; } ");
        for (int k = random.nextInt(5); k >= 0; k--) {
            text.append(statement(3)).append(' ');
        }
        return text.toString();
    }

    private String statement(int depth) {
        switch (random.nextInt(depth > 0 ? 8 : 6)) {
            case 0:
                return "p = " + expression(1) + ";";
            case 1:
                return "a[" + expression(0) + "] = " + expression(1) + ";";
            case 2:
                return "t[" + expression(0) + "] = " + expression(2) + ";";
            case 6:
                return "if " + expression(1) + " { " + statement(depth - 1) + " } else { " + statement(depth - 1) + " }";
            case 7:
                return "while i < 4 { i = i + 1; " + statement(depth - 1) + " }";
            default:
                return "s = " + expression(2) + ";";
        }
    }

    private String expression(int depth) {
        if (depth == 0 || random.nextInt(4) == 0) {
            return PIECES[random.nextInt(PIECES.length)];
        }
        if (random.nextInt(6) == 0) {
            return "(" + expression(depth - 1) + " ? " + expression(depth - 1) + " : " + expression(depth - 1) + ")";
        }
        return "(" + expression(depth - 1) + " " + SIGNS[random.nextInt(SIGNS.length)] + " " + expression(depth - 1) + ")";
    }
}
