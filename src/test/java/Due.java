/** Counts and prints the answers that are not the ones due; shared by all tests of the project. */
final class Due {
    static final int BEYOND = -1000000001;
    static final int FULL = -1000000002;
    static final int KIND = -1000000003;
    static final int NONE = -1000000004;
    static final int STATE = -1000000005;
    static final int MISSING = -1000000006;
    static final int SIZE = -1000000007;

    private static int wrong = 0;
    private static int asked = 0;

    private Due() {
    }

    static void is(String call, long got, long want) {
        asked++;
        if (got != want) {
            wrong++;
            System.out.println(call + " answered " + got + ", due is " + want);
        }
    }

    static void holds(String what, boolean yes) {
        is(what, yes ? 1 : 0, 1);
    }

    /** Puts a text on the tape, four bytes a call as far as they go; what feed() answered last. */
    static int feed(BentPlain x, String text) {
        int answer = 0;
        int bytes = 0;
        for (int i = 0; i < text.length(); i++) {
            bytes = bytes << 8 | text.charAt(i);
            if (i % 4 == 3 || i == text.length() - 1) {
                answer = x.feed(bytes, i % 4 + 1);
            }
        }
        return answer;
    }

    /** Feeds a text and tells it. */
    static int plain(BentPlain x, String text) {
        x.wipe();
        feed(x, text);
        return x.plain();
    }

    /** A plain told by a text that must have no fault. */
    static BentPlain told(String... texts) {
        BentPlain x = new BentPlain();
        for (String text : texts) {
            holds("text without a fault: " + text, plain(x, text) > 0);
        }
        return x;
    }

    /** A plain from the rough of its fields and pairs of sides, each 4 times its field and itself. */
    static BentPlain glued(String roughs, String pairs) {
        BentPlain x = new BentPlain();
        for (int f = 0; f < roughs.length(); f++) {
            is("field", x.field(roughs.charAt(f) - '0'), f);
        }
        for (String pair : pairs.split(" ")) {
            int one = Integer.parseInt(pair.substring(0, pair.indexOf('-')));
            int other = Integer.parseInt(pair.substring(pair.indexOf('-') + 1));
            is("glue " + pair, x.glue(one / 4, one % 4, other / 4, other % 4), 1);
        }
        return x;
    }

    static void end() {
        if (wrong != 0) {
            System.out.println(wrong + " of " + asked + " answers are not as due");
            System.exit(1);
        }
    }
}
