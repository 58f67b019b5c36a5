/** The boundary cases of the section VALUES: a method for each sentence. */
public final class ValueEdgeTest {
    private static final int LEAST = Integer.MIN_VALUE;
    private static final int MOST = Integer.MAX_VALUE;
    private static final int[] EDGES = {
        0, 1, -1, 2, -2, 3, 7, -7, 31, 32, 33, 63, 64, 65535, 65536, MOST, MOST - 1, LEAST, LEAST + 1};

    public static void main(String[] args) {
        allGoesRound();
        comparedAsSigned();
        dividedAsSignedTowardsZero();
        oneOrZero();
        shifts();
        choices();
        bitByBit();
        Probe.finish();
    }

    /** What x is made of p and q, the one running program with all pairs of inputs. */
    private static QuietChecker of(String e) {
        return Probe.reading("pub x; pub p; pub q; x = " + e + ";");
    }

    private static int worked(QuietChecker x, int p, int q) {
        x.put(1, 0, p);
        x.put(2, 0, q);
        x.run(1);
        return x.value(0, 0);
    }

    private static void due(String e, int p, int q, int want) {
        Probe.due(e + " of " + p + " and " + q, worked(of(e), p, q), want);
    }

    /** "VALUES are of 32 bits, all goes round" */
    private static void allGoesRound() {
        due("p + q", MOST, 1, LEAST);
        due("p + q", LEAST, -1, MOST);
        due("p - q", LEAST, 1, MOST);
        due("p - q", 0, LEAST, LEAST);
        due("p * q", LEAST, -1, LEAST);
        due("p * q", 65536, 65536, 0);
        due("p * q", MOST, MOST, 1);
        due("p * q", 65537, 65537, 131073);
        due("-p", LEAST, 0, LEAST);
        due("-p", MOST, 0, LEAST + 1);
        due("~p", LEAST, 0, MOST);
        due("4294967295 + 2", 0, 0, 1);
        for (int p : EDGES) {
            for (int q : EDGES) {
                due("p + q", p, q, (int) ((long) p + q));
                due("p - q", p, q, (int) ((long) p - q));
                due("p * q", p, q, (int) ((long) p * q));
            }
        }
    }

    /** "< <= ... take them as signed" */
    private static void comparedAsSigned() {
        for (int p : EDGES) {
            for (int q : EDGES) {
                due("p < q", p, q, Integer.compare(p, q) < 0 ? 1 : 0);
                due("p <= q", p, q, Integer.compare(p, q) <= 0 ? 1 : 0);
            }
        }
        due("2147483648 < 2147483647", 0, 0, 1);
        due("4294967295 < 0", 0, 0, 1);
    }

    /** "/ % take them as signed, / towards 0" and "of -2^31 by -1 they are -2^31 and 0" */
    private static void dividedAsSignedTowardsZero() {
        due("p / q", 7, 2, 3);
        due("p / q", -7, 2, -3);
        due("p / q", 7, -2, -3);
        due("p / q", -7, -2, 3);
        due("p % q", 7, 2, 1);
        due("p % q", -7, 2, -1);
        due("p % q", 7, -2, 1);
        due("p % q", -7, -2, -1);
        due("p / q", 1, 2, 0);
        due("p / q", -1, 2, 0);
        due("p / q", LEAST, -1, LEAST);
        due("p % q", LEAST, -1, 0);
        due("p / q", LEAST, 1, LEAST);
        due("p / q", LEAST, LEAST, 1);
        due("p % q", LEAST, MOST, -1);
        due("p / q", MOST, LEAST, 0);
        due("p % q", MOST, LEAST, MOST);
        due("4294967295 / 2", 0, 0, 0);
    }

    /** "== != < <= ! are 1 or 0" */
    private static void oneOrZero() {
        for (int p : EDGES) {
            for (int q : EDGES) {
                due("p == q", p, q, p == q ? 1 : 0);
                due("p != q", p, q, p == q ? 0 : 1);
            }
            due("!p", p, 0, p == 0 ? 1 : 0);
            due("!!p", p, 0, p == 0 ? 0 : 1);
        }
    }

    /** ">> brings 0 in, shifts go by the lowest five bits" */
    private static void shifts() {
        due("p >> q", LEAST, 31, 1);
        due("p >> q", -1, 1, MOST);
        due("p >> q", -1, 0, -1);
        due("p >> q", -1, 32, -1);
        due("p >> q", -1, 33, MOST);
        due("p >> q", -1, -1, 1);
        due("p << q", 1, 31, LEAST);
        due("p << q", 3, 31, LEAST);
        due("p << q", 1, 32, 1);
        due("p << q", 1, 63, LEAST);
        due("p << q", 1, 64, 1);
        due("p << q", 1, -1, LEAST);
        due("p << q", 1, LEAST, 1);
        for (int p : EDGES) {
            for (int by = 0; by < 32; by++) {
                due("p << q", p, by + 96, (int) ((p & 0xFFFFFFFFL) << by));
                due("p >> q", p, by - 64, (int) ((p & 0xFFFFFFFFL) >> by));
            }
        }
    }

    /** "A ? x : y works all three and is x if A is not 0, else y" */
    private static void choices() {
        for (int p : EDGES) {
            due("p ? 5 : 6", p, 0, p != 0 ? 5 : 6);
        }
        for (String parts : new String[] {"1 / q ? 5 : 6", "1 ? 1 / q : 6", "1 ? 5 : 1 / q", "0 ? 1 / q : 6"}) {
            QuietChecker x = of(parts);
            Probe.due("end of " + parts, x.run(1), 3);
        }
        String start = "pub x; pub a[9]; ";
        String text = start + "x = a[0] ? a[1] : a[2];";
        Probe.dueNotes(text, Probe.running(text), -1, -2, -3);
        String nested = start + "x = 1 ? 0 ? a[1] : a[2] : a[3] ? a[4] : a[5];";
        Probe.dueNotes(nested, Probe.running(nested), -2, -3, -4, -5, -6);
    }

    /** "VALUES are of 32 bits": & | ^ ~ work on all of them */
    private static void bitByBit() {
        for (int p : EDGES) {
            for (int q : EDGES) {
                due("p & q", p, q, p & q);
                due("p | q", p, q, p | q);
                due("p ^ q", p, q, p ^ q);
            }
            due("~p", p, 0, -1 - p);
        }
    }
}
