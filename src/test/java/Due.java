/** Counts the answers of one test that are not the due ones, and tells each. */
final class Due {
    private static int wrong = 0;

    private Due() {
    }

    static void eq(String what, long got, long want) {
        if (got != want) {
            wrong++;
            System.out.println(what + ": answered " + got + ", due is " + want);
        }
    }

    /** Feeds a text, eight bytes a call, behind what THE TAPE has. */
    static void tell(HiredClaque x, String text) {
        int before = x.many(5);
        for (int at = 0; at < text.length(); at += 8) {
            int n = Math.min(8, text.length() - at);
            long eight = 0;
            for (int i = 0; i < n; i++) {
                eight |= (text.charAt(at + i) & 255L) << 8 * i;
            }
            eq("feed " + text, x.feed(eight, n), before + at + n);
        }
    }

    static void opera(String text, int want) {
        HiredClaque x = new HiredClaque();
        tell(x, text);
        eq("opera of '" + text + "'", x.opera(), want);
    }

    static HiredClaque told(String text) {
        HiredClaque x = new HiredClaque();
        tell(x, text);
        x.opera();
        return x;
    }

    static void end() {
        if (wrong != 0) {
            System.out.println(wrong + " answers are not as due");
            System.exit(1);
        }
    }
}
