import java.util.List;
import java.util.Map;

/**
 * A test of one sentence of the document, told by calls and their answers, a line each:
 *
 * <pre>
 * glue 0 0 1 2 = 1          a call and the answer that is due
 * over 0 3 = NONE           a finding by its name
 * rough 0 MAX = BEYOND      MAX and MIN are the ends of int
 * steps 3                   a call whose answer doesn't matter here
 * tape field;               bytes for the tape
 * text field;field = 2      bytes for the tape, and plain()
 * sides 0-2 1-3             glue, each side 4 times its field and itself
 * fields 16                 so many calls of field(0)
 * </pre>
 *
 * A line with a finding is tried on a second object, too: it must change nothing but status().
 */
final class Script {
    private static final int MOST_CALLS = 512;
    private static final Map<String, Integer> FINDINGS = Map.of("BEYOND", Due.BEYOND, "FULL", Due.FULL, "KIND", Due.KIND,
        "NONE", Due.NONE, "STATE", Due.STATE, "MISSING", Due.MISSING, "SIZE", Due.SIZE);

    private final BentPlain x = new BentPlain();
    private int calls = 0;

    private Script() {
    }

    /** Runs lines on a new object. */
    static void run(String sentence, String... lines) {
        Script script = new Script();
        for (int i = 0; i < lines.length; i++) {
            String call = callOf(lines[i]);
            long got = script.play(call);
            if (call.length() < lines[i].length()) {
                String due = lines[i].substring(call.length() + 3);
                Due.is(sentence + " | " + call, got, number(due));
                if (FINDINGS.containsKey(due)) {
                    changesNothing(sentence, lines, i);
                }
            }
        }
        Due.holds(sentence + ": no more calls than an object is used for", script.calls <= MOST_CALLS);
    }

    /** Runs lines on a new object behind others that make its plain. */
    static void runOn(String[] plain, String sentence, String... lines) {
        String[] all = java.util.Arrays.copyOf(plain, plain.length + lines.length);
        System.arraycopy(lines, 0, all, plain.length, lines.length);
        run(sentence, all);
    }

    private static String callOf(String line) {
        int at = line.lastIndexOf(" = ");
        return at < 0 ? line : line.substring(0, at);
    }

    private static long number(String word) {
        switch (word) {
            case "MAX": return Integer.MAX_VALUE;
            case "MIN": return Integer.MIN_VALUE;
            default: return FINDINGS.containsKey(word) ? FINDINGS.get(word) : Long.parseLong(word);
        }
    }

    /** Two objects behind the same lines: the one with the refused call looks as the one without. */
    private static void changesNothing(String sentence, String[] lines, int refused) {
        Script with = new Script();
        Script without = new Script();
        for (int i = 0; i < refused; i++) {
            with.play(callOf(lines[i]));
            without.play(callOf(lines[i]));
        }
        long finding = with.play(callOf(lines[refused]));
        long[] more = Look.findings(with.x);
        long[] was = Look.findings(without.x);
        for (int which = -1; which <= 6; which++) {
            boolean counted = which == -1 || which == Due.BEYOND - finding;
            Due.is(sentence + " | " + lines[refused] + ", status(" + which + ")", more[which + 1],
                was[which + 1] + (counted ? 1 : 0));
        }
        List<String> left = Look.at(with.x);
        List<String> due = Look.at(without.x);
        Due.holds(sentence + " | " + lines[refused] + " changes nothing: " + left + ", not " + due, left.equals(due));
    }

    private long play(String call) {
        String rest = call.contains(" ") ? call.substring(call.indexOf(' ') + 1) : "";
        if (call.startsWith("tape ") || call.startsWith("text ")) {
            calls += (rest.length() + 3) / 4;
            long length = Due.feed(x, rest);
            return call.startsWith("tape ") ? length : one("plain");
        }
        String[] words = call.split(" ");
        if (words[0].equals("fields")) {
            return fields(Integer.parseInt(words[1]));
        }
        if (words[0].equals("sides")) {
            return sides(words);
        }
        long[] a = new long[words.length - 1];
        for (int i = 0; i < a.length; i++) {
            a[i] = number(words[i + 1]);
        }
        return one(words[0], a);
    }

    private long fields(int n) {
        long last = -1;
        for (int i = 0; i < n; i++) {
            last = one("field", 0);
        }
        return last;
    }

    private long sides(String[] pairs) {
        long last = 0;
        for (int i = 1; i < pairs.length; i++) {
            int dash = pairs[i].indexOf('-');
            int side = Integer.parseInt(pairs[i].substring(0, dash));
            int other = Integer.parseInt(pairs[i].substring(dash + 1));
            last = one("glue", side / 4, side % 4, other / 4, other % 4);
            Due.is("sides " + pairs[i], last, 1);
        }
        return last;
    }

    private long one(String name, long... a) {
        calls++;
        return Calls.on(x, name, a);
    }
}
