/** The boundary cases of the sections TEXT and TOKENS: a method for each sentence, told above it. */
public final class TextEdgeTest {
    public static void main(String[] args) {
        atMost3000();
        charactersOfAText();
        tenEndsALine();
        blanksOrNot();
        blanksEndWhatIsInFront();
        remarksSayNothing();
        nothingOfAnEarlierText();
        asLongAsCanBe();
        numbersBelowTwoTo32();
        noLetterBehindANumber();
        firstNoDigit();
        atMost15();
        namesButThese();
        Probe.finish();
    }

    /** "TEXT: at most 3000 characters" */
    private static void atMost3000() {
        String start = "pub x;x=1";
        String most = start + Probe.repeated("+1", (3000 - start.length() - 1) / 2) + ";";
        Probe.due("length of the longest text", most.length(), 3000);
        QuietChecker x = new QuietChecker();
        Probe.feed(x, most);
        Probe.due("length", x.count(10), 3000);
        Probe.due("one character more", x.feed(' ', 1), false);
        Probe.due("length", x.count(10), 3000);
        Probe.due("check of the longest text", x.check(), 0);
        Probe.due("run", x.run(1), 0);
        Probe.due("what it worked out", x.value(0, 0), 1 + (3000 - start.length() - 1) / 2);
        Probe.dueFault(1, Probe.repeated("\n", 2999) + "@;");
        Probe.dueFault(1, "@" + Probe.repeated(";", 3000));
        Probe.dueFault(1, Probe.repeated(" ", 2997) + "pub@");
        Probe.dueNoFault(Probe.repeated("skip;", 600));
    }

    /** "characters 10, 32 .. 126" */
    private static void charactersOfAText() {
        int[] fine = {10, 32, 33, 125, 126};
        for (int c : fine) {
            Probe.due("feed of " + c, new QuietChecker().feed(c, 1), true);
        }
        int[] wrong = {0, 1, 8, 9, 11, 12, 13, 30, 31, 127, 128, 129, 138, 160, 254, 255};
        for (int c : wrong) {
            Probe.due("feed of " + c, new QuietChecker().feed(c, 1), false);
        }
        Probe.dueFault(1, "@!");
        Probe.dueFault(1, "@~");
        Probe.dueNoFault("# !\"$%&'()*+,-./:;<=>?`[\\]^_{|}~");
    }

    /** "10 ends a line" */
    private static void tenEndsALine() {
        Probe.dueNoFault("#\nskip;#\n\n#\nskip;");
        Probe.dueFault(1, "#\n@;");
        Probe.dueFault(1, "# a\n# b\n@;\n");
        Probe.dueNoFault("# a # b ; \n");
    }

    /** "blanks (32, 10) stand between tokens or not" */
    private static void blanksOrNot() {
        Probe.dueNoFault("pub x;pub a[2];fun pub f(pub n){return n;}if x{x=a[1]+f(2);}else{while x{skip;}}");
        Probe.dueNoFault(" pub \n x ; pub a\n[ 2 ]\n;fun\npub f ( pub n ) { return\nn ; } "
                + "if x { x = a [ 1 ] + f ( 2 ) ; } else { while\nx { skip ; } } \n");
        Probe.dueNoFault("pub x;x=1<<2<=3==-4!=!5;");
        Probe.dueNoFault(" ");
        Probe.dueNoFault("\n");
    }

    /** "and end what is in front of them" */
    private static void blanksEndWhatIsInFront() {
        Probe.dueFault(2, "pub xy; xy = @x y;");
        Probe.dueFault(1, "pub x; x = 1 @2;");
        Probe.dueFault(1, "pub x; x = 1\n@2;");
        Probe.dueFault(1, "pub x; x = 1 < @< 2;");
        Probe.dueFault(1, "pub x; x = 1 < @= 2;");
        Probe.dueFault(1, "pub x; x = 1 @= = 2;");
        Probe.dueFault(1, "pub x; x = 1 @! = 2;");
        Probe.dueFault(1, "pub x; x = 1 @>\n> 2;");
        Probe.dueFault(2, "pub x; @whi le x { }");
        Probe.dueFault(1, "pub x @y;");
        Probe.dueNoFault("pub abcdefghijklmno\n;");
    }

    /** "from a # on a line says nothing" */
    private static void remarksSayNothing() {
        Probe.dueNoFault("#");
        Probe.dueNoFault("skip;#");
        Probe.dueNoFault("skip;# ) $ 99999999999999 12x abcdefghijklmnopqrstuvwxyz");
        Probe.dueNoFault("pub x#y\n; x#\n=#\n4294967295#9\n;");
        Probe.dueFault(2, "pub xy; xy = @x#\ny;");
        Probe.dueFault(1, "pub x; x = 1 <#\n@<2;");
        Probe.dueFault(1, "skip #;@");
        Probe.dueFault(1, "skip #;\n@skip;");
        Probe.dueNoFault(Probe.repeated("#", 3000));
    }

    /** "The text is read, and is empty then": a token ends where the text does, whatever stood there before */
    private static void nothingOfAnEarlierText() {
        String[][] pairs = {{"pub x; x = 1 == 2;", "pub x; x = 1 @="}, {"pub x; x = 1 != 2;", "pub x; x = 1 @!"},
            {"pub x; x = 1 >> 2;", "pub x; x = 1 @>"}, {"pub x; x = 4294967295;", "pub x; x = 429496729@"},
            {"pub x; x = 1x;", "pub x; x = 1@"}, {"pub x1; x1 = 1;", "pub x; x@"}, {"skip;", "skip@"}, {"#", "@;"}};
        for (String[] pair : pairs) {
            QuietChecker x = Probe.reading(pair[0]);
            Probe.feed(x, pair[1].replace("@", ""));
            Probe.due("check of " + pair[1], x.check(), 1 + 16 * pair[1].indexOf('@'));
        }
        for (String last : new String[] {"<@", "-@", "x@", "9@", "@=", "@>", "@!", "@9_", "@9a"}) {
            String end = last.replace("@", "");
            String front = "pub x; x = " + (last.equals("<@") || last.startsWith("@") && !last.startsWith("@9") ? "1" : "");
            String text = front + Probe.repeated(" ", 3000 - front.length() - end.length()) + end;
            QuietChecker x = new QuietChecker();
            Probe.feed(x, text);
            Probe.due("check of a text of 3000 that ends with " + end, x.check(),
                    1 + 16 * (3000 - end.length() + last.indexOf('@')));
        }
    }

    /** "TOKENS, as long as can be" */
    private static void asLongAsCanBe() {
        Probe.dueFault(1, "pub x; x = 1 <<@= 2;");
        Probe.dueFault(1, "pub x; x = 1 <<@<< 2;");
        Probe.dueFault(1, "pub x; x = 1 <=@= 2;");
        Probe.dueFault(1, "pub x; x = 1 ==@= 2;");
        Probe.dueFault(1, "pub x; x = 1 !=@= 2;");
        Probe.dueFault(1, "pub x; x = 1 >>@>> 2;");
        Probe.dueFault(1, "pub x; x @==1;");
        Probe.dueNoFault("pub x; x =-1; x = !!1; x =~1; x = 1!=!1;");
        Probe.dueFault(1, "pub x; x = @!=1;");
        Probe.dueNoFault("pub iff; pub skipp; pub whilex; iff = skipp;");
        Probe.dueFault(2, "pub x; @ifx { }");
        Probe.dueValue(0, "pub x; x = 12345;", 12345);
    }

    /** "NUMBERS: digits, below 2^32" */
    private static void numbersBelowTwoTo32() {
        Probe.dueValue(0, "pub x; x = 0;", 0);
        Probe.dueValue(0, "pub x; x = 2147483647;", Integer.MAX_VALUE);
        Probe.dueValue(0, "pub x; x = 2147483648;", Integer.MIN_VALUE);
        Probe.dueValue(0, "pub x; x = 4294967295;", -1);
        Probe.dueValue(0, "pub x; x = 00000000004294967295;", -1);
        Probe.dueValue(0, "pub x; x = " + Probe.repeated("0", 2900) + "7;", 7);
        for (String tooLarge : new String[] {"4294967296", "4294967297", "9999999999", "42949672950",
            "18446744073709551615", "18446744073709551616", "18446744073709551617",
            "9223372036854775808", Probe.repeated("9", 2900), "1" + Probe.repeated("0", 2900)}) {
            Probe.dueFault(1, "pub x; x = @" + tooLarge + ";");
        }
        Probe.dueFault(1, "pub a[@4294967297];");
    }

    /** "(no letter or _ behind them)" */
    private static void noLetterBehindANumber() {
        for (String behind : new String[] {"a", "z", "A", "Z", "_"}) {
            Probe.dueFault(1, "pub x; x = @1" + behind + ";");
            Probe.dueFault(1, "pub x; x = @4294967295" + behind + "7;");
            Probe.dueFault(1, "pub x; x = @4294967296" + behind + ";");
            Probe.dueNoFault("pub " + behind + "; " + behind + " = 1#" + behind + "\n;");
            Probe.dueFault(1, "pub " + behind + "; " + behind + " = 1 @" + behind + ";");
        }
        Probe.dueFault(1, "pub x; x = @1if;");
    }

    /** "WORDS: letters, digits, _, the first no digit" */
    private static void firstNoDigit() {
        Probe.dueNoFault("pub a0; pub z9; pub A0; pub Z9; pub _0; pub __; pub _; a0 = z9;");
        Probe.dueFault(1, "pub @0a;");
        Probe.dueFault(1, "pub @9;");
        Probe.dueFault(1, "pub @9_;");
        Probe.dueFault(1, "pub a@-b;");
        Probe.dueFault(1, "pub a@.b;");
        Probe.dueFault(1, "pub a@`;");
        Probe.dueFault(1, "pub @$a;");
        Probe.dueFault(1, "pub a@$;");
    }

    /** "at most 15" */
    private static void atMost15() {
        Probe.dueNoFault("pub a; a = 1;");
        Probe.dueNoFault("pub abcdefghijklmno; abcdefghijklmno = 1;");
        Probe.dueNoFault("pub _23456789012345; fun pub _23456789012345() { return _23456789012345; }");
        Probe.dueFault(1, "pub @abcdefghijklmnop;");
        Probe.dueFault(1, "pub @_234567890123456;");
        Probe.dueFault(1, "pub x; x = @abcdefghijklmnop;");
        Probe.dueFault(1, "pub abcdefghijklmno; @abcdefghijklmnop = 1;");
        Probe.dueFault(1, "fun pub @abcdefghijklmnop() { return 1; }");
        Probe.dueFault(1, "fun pub f(pub @abcdefghijklmnop) { return 1; }");
        Probe.dueFault(1, "pub @" + Probe.repeated("w", 2990) + ";");
        Probe.dueFault(3, "pub abcdefghijklmno; sec @abcdefghijklmno;");
        Probe.dueNoFault("pub abcdefghijklmno; sec abcdefghijklmnO;");
    }

    /** "A NAME is a word but these: pub sec fun return if else while skip" */
    private static void namesButThese() {
        for (String word : "pub sec fun return if else while skip".split(" ")) {
            Probe.dueFault(1, "pub @" + word + ";");
            Probe.dueFault(1, "fun pub @" + word + "() { return 1; }");
            Probe.dueFault(1, "fun pub f(pub @" + word + ") { return 1; }");
            Probe.dueFault(1, "fun pub f() { sec @" + word + "; return 1; }");
            Probe.dueFault(1, "pub x; x = @" + word + ";");
            Probe.dueFault(1, "pub x; x = 1 + @" + word + "[0];");
            Probe.dueNoFault("pub " + word + "_; " + word + "_ = 1;");
            Probe.dueNoFault("pub _" + word + "; _" + word + " = 1;");
            String large = word.substring(0, 1).toUpperCase() + word.substring(1);
            Probe.dueNoFault("pub " + large + "; " + large + " = 1;");
            String shorter = word.substring(0, word.length() - 1);
            Probe.dueNoFault("pub " + shorter + "; " + shorter + " = 1;");
        }
    }
}
