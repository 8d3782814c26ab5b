/** Terms 2: THE TAPE and the TEXT; each sentence of them where it has an edge. */
public final class TextEdgesTest {
    private static final String[] KINDS = {"guest", "wife", "hand", "cook", "chief", "rival"};
    private static final String[] LAWS = {"pay", "cue", "wall", "wrong"};
    private static final int[] LEAST = {0, 1, 0, 0};
    private static final int[] MOST = {9, 9, 9, 99};

    public static void main(String[] args) {
        everyByte();
        everyEight();
        fullTape();
        emptyTexts();
        everyCut();
        everyKind();
        everyLaw();
        everyRoomPrideEar();
        moreDigits();
        defaults();
        namesAsLongAsTheyGo();
        everyByteBehindAName();
        numbersAsLongAsTheyGo();
        blanksPart();
        blanksElsewhere();
        onlyBlanks32();
        capitalsAndOthers();
        eachPlaceOfAStatement();
        firstFault();
        theNinth();
        numbersBeforeTheEnd();
        allByItAlone();
        zStays();
        noRowsThen();
        usedUp();
        Due.end();
    }

    // ---- THE TAPE

    /** A byte that isn't a letter, digit, blank or semicolon can stand nowhere; alone, only a blank can. */
    private static void everyByte() {
        for (int b = 0; b < 256; b++) {
            HiredClaque x = new HiredClaque();
            Due.eq("2 a byte", x.feed(b | 0x2020202020202000L, 2), 2);
            boolean letter = 'a' <= b && b <= 'z';
            Due.eq("3 byte " + b + " alone", x.opera(), b == ' ' ? 0 : -100);
            x = new HiredClaque();
            Due.tell(x, "pay 3");
            x.feed(b, 1);
            Due.tell(x, ";");
            boolean digit = '0' <= b && b <= '9';
            int due = b == ' ' ? 0 : digit ? -104 : b == ';' ? -106 : -105;
            Due.eq("3 byte " + b + " behind a number" + (letter ? ", a letter" : ""), x.opera(), due);
        }
    }

    /** Each of eight bytes comes, the lowest first, and none beyond n. */
    private static void everyEight() {
        byte[] text = "cue 4 ; ".getBytes(java.nio.charset.StandardCharsets.US_ASCII);
        long eight = 0;
        for (int i = 7; i >= 0; i--) {
            eight = eight << 8 | text[i];
        }
        for (int n = 1; n <= 8; n++) {
            HiredClaque x = new HiredClaque();
            Due.eq("2 n " + n, x.feed(eight, n), n);
            int due = n < 5 ? -100 - n : n < 7 ? -100 - n : 0;
            Due.eq("3 of its first " + n, x.opera(), n < 3 ? -100 : due);
            x.feed(eight | ~0L << 8 * Math.min(n, 7), Math.min(n, 7));
            Due.eq("3 what is beyond doesn't come", x.opera(), n < 3 ? -100 : due);
        }
        HiredClaque x = new HiredClaque();
        x.feed(eight & 0xffffffL, 3);
        Due.eq("2 behind them", x.feed(eight >>> 24, 5), 8);
        Due.eq("3 both", x.opera(), 0);
        Due.eq("3 cue", x.lawOf(1), 4);
    }

    private static void fullTape() {
        for (int n = 1; n <= 8; n++) {
            HiredClaque x = new HiredClaque();
            int length = 0;
            while (length + n <= 200) {
                length += n;
                Due.eq("2 fill by " + n, x.feed(0x2020202020202020L, n), length);
            }
            int left = 200 - length;
            Due.eq("2 201 at least", x.feed(0x2020202020202020L, left + 1), -2);
            if (left > 0) {
                Due.eq("2 just 200", x.feed(0x2020202020202020L, left), 200);
            }
            Due.eq("2 full", x.feed(' ', 1), -2);
            Due.eq("3 read to its end", x.opera(), 0);
        }
        // the last of 200 bytes counts
        Due.eq("3 a law at the end", Due.told(blanks(194) + "pay 7;").lawOf(0), 7);
        Due.opera(blanks(195) + "pay 7", -300);
        Due.opera(blanks(199) + "x", -299);
        Due.opera(blanks(196) + "pay ", -300);
        Due.opera(blanks(196) + "pay7", -300);
        Due.opera(blanks(200), 0);
        StringBuilder laws = new StringBuilder();
        for (int i = 0; i < 40; i++) {
            laws.append("pay").append(i % 10).append(';');
        }
        Due.eq("3 forty laws", Due.told(laws.toString()).lawOf(0), 9);
    }

    private static String blanks(int n) {
        return " ".repeat(n);
    }

    private static void emptyTexts() {
        HiredClaque x = new HiredClaque();
        Due.eq("3 an empty tape", x.opera(), 0);
        x.person(0, 0, 0, 0);
        Due.eq("3 an empty tape again", x.opera(), 0);
        Due.eq("3 nobody then", x.many(0), 0);
        Due.opera(" ", 0);
    }

    // ---- The TEXT

    /** A right text that is cut short anywhere lacks its end there, or its last token is not as told. */
    private static void everyCut() {
        String text = "wife in 7 pride 45 ear 6 claps ; wrong 21 ;";
        for (int n = 0; n <= text.length(); n++) {
            String cut = text.substring(0, n);
            String last = cut.isEmpty() || cut.endsWith(" ") ? "" : cut.substring(cut.lastIndexOf(' ') + 1);
            boolean whole = cut.isBlank() || cut.trim().endsWith(";");
            boolean cutName = !"".equals(last) && last.matches("[a-z]+") && !(" " + text).contains(" " + last + " ");
            int due = whole ? (n == 0 ? 0 : 1) : cutName ? -100 - (n - last.length()) : -100 - n;
            Due.opera(cut, due);
        }
    }

    private static void everyKind() {
        for (int kind = 0; kind < 6; kind++) {
            HiredClaque x = Due.told(KINDS[kind] + " in 0;");
            Due.eq("3 one of kind " + kind, x.many(0), 1);
            Due.eq("3 its kind", x.of(0, 0), kind);
            Due.opera(KINDS[kind], -100 - KINDS[kind].length());
            Due.opera(KINDS[kind] + "s in 0;", -100);
            Due.opera(KINDS[kind].substring(1) + " in 0;", -100);
            Due.opera(KINDS[kind].substring(0, KINDS[kind].length() - 1) + " in 0;", -100);
            Due.opera(KINDS[kind] + " " + KINDS[kind] + " 0;", -101 - KINDS[kind].length());
        }
    }

    private static void everyLaw() {
        for (int law = 0; law < 4; law++) {
            String name = LAWS[law];
            int at = -101 - name.length();
            for (int v = 0; v <= 101; v++) {
                boolean right = LEAST[law] <= v && v <= MOST[law];
                Due.opera(name + " " + v + ";", right ? 0 : at);
                if (right) {
                    HiredClaque x = Due.told(name + " " + v + ";");
                    Due.eq("3 " + name, x.lawOf(law), v);
                }
            }
            Due.opera(name, 1 + at);
            Due.opera(name + "s 1;", -100);
            Due.opera(name + " ;", at);
            Due.opera(name + " in 1;", at);
            Due.opera(name + " 1", at - 1);
            Due.opera(name + " 1 1;", at - 2);
            Due.opera(name + " 1 claps;", at - 2);
        }
    }

    private static void everyRoomPrideEar() {
        for (int v = 0; v <= 101; v++) {
            Due.opera("guest in " + v + ";", v <= 7 ? 1 : -109);
            Due.opera("guest in 0 pride " + v + ";", v <= 99 ? 1 : -117);
            Due.opera("guest in 0 ear " + v + ";", v <= 9 ? 1 : -115);
            if (v <= 7) {
                Due.eq("3 room", Due.told("guest in " + v + ";").of(0, 3), v);
            }
            if (v <= 99) {
                Due.eq("3 pride", Due.told("guest in 0 pride " + v + ";").of(0, 1), v);
            }
            if (v <= 9) {
                Due.eq("3 ear", Due.told("guest in 0 ear " + v + ";").of(0, 2), v);
            }
        }
        Due.opera("guest in 999;", -109);
        Due.opera("guest in 256;", -109);
    }

    private static void moreDigits() {
        Due.opera("pay 009;", 0);
        Due.opera("pay 0009;", -104);
        Due.opera("pay 0000;", -104);
        Due.opera("pay 1000;", -104);
        Due.opera("guest in 007;", 1);
        Due.opera("guest in 0007;", -109);
        Due.opera("guest in 0 pride 0000;", -117);
        Due.opera("guest in 0 ear 0003;", -115);
        Due.opera("cue 000;", -104);
        Due.opera("cue 001;", 0);
        Due.opera("pay 4294967296;", -104);
        Due.opera("pay 18446744073709551616;", -104);
        Due.opera("pay " + "0".repeat(195), -104);
    }

    private static void defaults() {
        HiredClaque x = Due.told("hand in 4; hand in 5 ear 0; hand in 6 pride 1; hand in 7 claps;");
        int[][] want = {{2, 0, 3, 4, 0}, {2, 0, 0, 5, 0}, {2, 1, 3, 6, 0}, {2, 0, 3, 7, 1}};
        for (int p = 0; p < 4; p++) {
            for (int what = 0; what < 5; what++) {
                Due.eq("3 of " + p + ", " + what, x.of(p, what), want[p][what]);
            }
        }
        Due.eq("3 the last claps", x.state(1), 8);
    }

    private static void namesAsLongAsTheyGo() {
        Due.opera("guestin 0;", -100);
        Due.opera("guest inn 0;", -106);
        Due.opera("guest in 0 clapsclaps;", -111);
        Due.opera("guest in 0 prideear 3;", -111);
        Due.opera("guest in 0 clap;", -111);
        Due.opera("paypay 3;", -100);
        Due.opera("guest in 0;guestin 0;", -111);
    }

    /** Just the letters a to z go on with a NAME; any other byte ends it, and is told by its own place. */
    private static void everyByteBehindAName() {
        for (int b = 0; b < 256; b++) {
            boolean letter = 'a' <= b && b <= 'z';
            boolean fine = b == ' ' || b == '0';
            Due.opera("pay" + (char) b + "3;", fine ? 0 : letter ? -100 : -103);
            Due.opera("guest in 1 ear" + (char) b + "3;", fine ? 1 : letter ? -111 : -114);
        }
    }

    private static void numbersAsLongAsTheyGo() {
        Due.opera("guest in 12;", -109);
        Due.opera("guest in 1 2;", -111);
        Due.opera("pay 1 0;", -106);
        Due.opera("wrong 9 9;", -108);
        Due.opera("guest in 0 ear 33;", -115);
    }

    private static void blanksPart() {
        Due.opera("gu est in 0;", -100);
        Due.opera("guest i n 0;", -106);
        Due.opera("guest in 0 pride 1 1;", -119);
        // a digit ends a name, and a letter ends a number: no blank is needed there
        Due.opera("guest in0;", 1);
        Due.opera("guest in 0claps;", 1);
        Due.opera("guest in0pride99ear9claps;pay0;", 1);
    }

    private static void blanksElsewhere() {
        Due.opera("   guest    in     0      pride       1        ear   2   claps   ;    pay   3   ;   ", 1);
        Due.opera("guest in 0;pay 3;guest in 0;", 2);
        Due.opera("   x", -103);
        Due.opera("guest   ;", -108);
        Due.opera("guest in   ", -111);
        Due.opera("guest in 0;   ;", -114);
    }

    private static void onlyBlanks32() {
        for (int b : new int[] {0, 9, 10, 11, 12, 13, 31, 33, 0x85, 0xa0, 255}) {
            Due.opera((char) b + "", -100);
            Due.opera("pay" + (char) b + "3;", -103);
            Due.opera("pay 3" + (char) b + ";", -105);
            Due.opera("pay 3;" + (char) b, -106);
        }
    }

    private static void capitalsAndOthers() {
        Due.opera("Pay 3;", -100);
        Due.opera("pAy 3;", -100);
        Due.opera("guest IN 0;", -106);
        Due.opera("guest in 0 `", -111);
        Due.opera("guest in 0 {", -111);
        Due.opera("guest in /", -109);
        Due.opera("guest in :", -109);
        Due.opera("guest in -1;", -109);
        Due.opera("guest in +1;", -109);
        Due.opera("guest in 0,pride 1;", -110);
        Due.opera("{guest in 0;}", -100);
    }

    /** At each place of a right statement another token is told: the fault is at its first byte. */
    private static void eachPlaceOfAStatement() {
        String[] right = {"guest", "in", "0", "pride", "5", "ear", "6", "claps", ";"};
        String[][] others = {{"in", "claps", "ear", "pride", "5", ";", "?"}, {"ear", "guest", "0", ";", "?"},
            {"in", "ear", "pride", ";", "8", "?"}, {"in", "5", "guest", "?"}, {"in", "pride", "ear", ";", "100", "?"},
            {"pride", "in", "6", "?"}, {"ear", "claps", ";", "10", "?"}, {"pride", "ear", "in", "6", "?"},
            {"claps", "ear", "pride", "in", "0", "guest", "?"}};
        for (int place = 0; place < right.length; place++) {
            for (String other : others[place]) {
                StringBuilder text = new StringBuilder();
                int at = 0;
                for (int i = 0; i < right.length; i++) {
                    at = i == place ? text.length() : at;
                    text.append(i == place ? other : right[i]).append(' ');
                }
                Due.opera(text.toString(), -100 - at);
                // nothing behind the fault counts
                Due.opera(text.substring(0, at) + other, -100 - at);
            }
        }
    }

    private static void firstFault() {
        Due.opera("guest in 8 pride 100 ear 10 clap", -109);
        Due.opera("guest in 0 pride 100 ear 10 clap", -117);
        Due.opera("guest in 0 pride 99 ear 10 clap", -124);
        Due.opera("guest in 0 pride 99 ear 9 clap", -126);
        Due.opera("pay 3; pay 10; cue 0;", -111);
        Due.opera("pay 3; gues in 9;", -107);
    }

    private static void theNinth() {
        for (int told = 0; told <= 8; told++) {
            String text = "hand in 1;".repeat(told);
            Due.opera(text, told);
            for (String kind : KINDS) {
                Due.opera(text + kind + " in 1;", told < 8 ? told + 1 : -180);
                Due.opera(text + " " + kind, told < 8 ? -101 - 10 * told - kind.length() : -181);
            }
            Due.opera(text + "wall 3;", told);
        }
        String full = "hand in 1;".repeat(8);
        Due.opera(full + "hand in 9;", -180);
        Due.opera(full + "wall 3; wrong 4; guest in 1;", -197);
        Due.opera(full + "wall 30; guest in 1;", -185);
        Due.opera(full + "in 3;", -180);
        Due.opera(full + ";", -180);
    }

    private static void numbersBeforeTheEnd() {
        Due.opera("guest in 8", -109);
        Due.opera("guest in 7", -110);
        Due.opera("guest in 0007", -109);
        Due.opera("pay 9", -105);
        Due.opera("pay 10", -104);
        Due.opera("cue 0", -104);
        Due.opera("wrong 100", -106);
        Due.opera("wrong 99", -108);
    }

    // ---- What opera() makes of all

    private static HiredClaque lively() {
        HiredClaque x = Due.told("guest in 7 claps; wife in 6; pay 9; cue 9; wall 9; wrong 9;");
        x.minutes(5);
        x.seed(-123);
        x.prove(1, 5);
        return x;
    }

    private static void allByItAlone() {
        String[] texts = {"pay 3;", "cue 4;", "wall 5;", "wrong 6;", ""};
        for (int told = 0; told < 5; told++) {
            HiredClaque x = lively();
            Due.tell(x, texts[told]);
            Due.eq("3 nobody is told", x.opera(), 0);
            int[] laws = {2, 3, 1, 20};
            for (int law = 0; law < 4; law++) {
                Due.eq("3 law " + law + " by '" + texts[told] + "'", x.lawOf(law), law == told ? law + 3 : laws[law]);
            }
            Due.eq("3 minute", x.state(0), 0);
            Due.eq("3 nobody claps", x.state(1), 0);
            Due.eq("3 no room is taken", x.state(4), 0);
            Due.eq("3 the first that comes", x.person(1, 2, 3, 4), 0);
        }
    }

    private static void zStays() {
        HiredClaque x = lively();
        Due.tell(x, "guest in 0;");
        x.opera();
        Due.eq("3 z stays", x.seed(5), -123);
        Due.tell(x, "guest in 9;");
        x.opera();
        Due.eq("3 z stays by a refused text", x.seed(6), 5);
    }

    private static void noRowsThen() {
        HiredClaque x = lively();
        Due.eq("3 rows before", x.many(4), 5);
        Due.tell(x, "guest in 7 claps; wife in 6; pay 9; cue 9; wall 9; wrong 9;");
        Due.eq("3 all as it was", x.opera(), 2);
        Due.eq("3 no rows", x.many(4), 0);
        Due.eq("3 no first row", x.row(0, 0), -9);
        Due.eq("3 nothing to judge", x.judge(0), 0);
    }

    private static void usedUp() {
        HiredClaque x = new HiredClaque();
        Due.tell(x, "pay 7;");
        x.opera();
        Due.eq("3 used up", x.many(5), 0);
        Due.eq("3 nothing is told any more", x.opera(), 0);
        Due.eq("3 pay is as at first", x.lawOf(0), 2);
        Due.tell(x, "pay 7; guest in");
        Due.eq("3 refused", x.opera(), -115);
        Due.eq("3 used up, too", x.many(5), 0);
        Due.tell(x, " 3;");
        Due.eq("3 what was told before is gone", x.opera(), -101);
        Due.eq("3 from the first byte on", x.feed(' ', 1), 1);
    }
}
