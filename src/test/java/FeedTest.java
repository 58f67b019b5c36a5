/** Promise 2. */
public final class FeedTest {
    public static void main(String[] args) {
        takesTheLowestBytesHighestFirst();
        refusesWrongNumbers();
        refusesWrongCharacters();
        refusesTooLongTexts();
        startsAnewBehindCheck();
        Probe.finish();
    }

    private static void takesTheLowestBytesHighestFirst() {
        QuietChecker x = new QuietChecker();
        Probe.due("feed", x.feed(0xFF00010203L << 24 | Probe.packed("pub"), 3), true);
        Probe.due("feed", x.feed(Probe.packed(" "), 1), true);
        Probe.due("feed", x.feed(Probe.packed("name_of8"), 8), true);
        Probe.due("feed", x.feed(Probe.packed("\n;"), 2), true);
        Probe.due("length", x.count(10), 14);
        Probe.due("check", x.check(), 0);
        String name = "name_of8";
        for (int i = 0; i < name.length(); i++) {
            Probe.due("letter " + i, x.letter(0, false, i), name.charAt(i));
        }
    }

    private static void refusesWrongNumbers() {
        QuietChecker x = new QuietChecker();
        long letters = 0x6161616161616161L;
        for (int n : new int[] {0, -1, 9, 64, Integer.MIN_VALUE, Integer.MAX_VALUE}) {
            Probe.due("feed with n = " + n, x.feed(letters, n), false);
        }
        Probe.due("length", x.count(10), 0);
    }

    private static void refusesWrongCharacters() {
        for (int c = 0; c < 256; c++) {
            QuietChecker x = new QuietChecker();
            boolean fine = c == 10 || c >= 32 && c <= 126;
            Probe.due("feed of " + c, x.feed(c, 1), fine);
            Probe.due("feed of a, " + c, x.feed('a' << 8 | c, 2), fine);
            Probe.due("feed of " + c + ", a", x.feed(c << 8 | 'a', 2), fine);
            Probe.due("length with " + c, x.count(10), fine ? 5 : 0);
        }
    }

    private static void refusesTooLongTexts() {
        QuietChecker x = new QuietChecker();
        Probe.feed(x, Probe.repeated(" ", 2999));
        Probe.due("feed of two beyond 2999", x.feed(Probe.packed("  "), 2), false);
        Probe.due("length", x.count(10), 2999);
        Probe.due("feed of the last one", x.feed(' ', 1), true);
        Probe.due("length", x.count(10), 3000);
        Probe.due("feed of one beyond 3000", x.feed(' ', 1), false);
        Probe.due("length", x.count(10), 3000);
        Probe.due("check", x.check(), 0);
        Probe.due("length", x.count(10), 0);
    }

    private static void startsAnewBehindCheck() {
        QuietChecker x = new QuietChecker();
        Probe.feed(x, "pub first;");
        x.check();
        Probe.feed(x, "sec b; se");
        Probe.due("the program that there is", x.letter(0, false, 0), 'f');
        Probe.feed(x, "c c;");
        x.check();
        Probe.due("declarations", x.count(0), 2);
        Probe.due("letter", x.letter(1, false, 0), 'c');
    }
}
