/** Promise 9. */
public final class LetterTest {
    public static void main(String[] args) {
        QuietChecker x = Probe.reading("pub a; sec Zz_9[3]; fun pub long_name_of_15(pub par) { sec loc; return 1; } "
                + "sec abcdefghij12345; fun sec a() { return 2; }");
        dueName(x, 0, false, "a");
        dueName(x, 1, false, "Zz_9");
        dueName(x, 2, false, "abcdefghij12345");
        dueName(x, 0, true, "long_name_of_15");
        dueName(x, 1, true, "a");
        for (int k : new int[] {-1, 3, 40, Integer.MIN_VALUE, Integer.MAX_VALUE}) {
            Probe.throwsIndex("letter(" + k + ")", () -> x.letter(k, false, 0));
        }
        for (int k : new int[] {-1, 2, 6, Integer.MIN_VALUE, Integer.MAX_VALUE}) {
            Probe.throwsIndex("letter of function " + k, () -> x.letter(k, true, 0));
        }
        Probe.feed(x, "sec other; fun pub next");
        dueName(x, 1, false, "Zz_9");
        x.check();
        Probe.throwsIndex("letter without a program", () -> x.letter(0, false, 0));
        QuietChecker leaky = Probe.reading("sec s; pub p; p = s;");
        dueName(leaky, 1, false, "p");
        Probe.finish();
    }

    private static void dueName(QuietChecker x, int k, boolean functions, String name) {
        for (int i = 0; i < name.length(); i++) {
            Probe.due("letter(" + k + ", " + functions + ", " + i + ")", x.letter(k, functions, i), name.charAt(i));
        }
        for (int i : new int[] {-1, name.length(), Integer.MIN_VALUE, Integer.MAX_VALUE}) {
            Probe.throwsIndex("letter(" + k + ", " + functions + ", " + i + ")", () -> x.letter(k, functions, i));
        }
    }
}
