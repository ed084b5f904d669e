import java.util.ArrayList;
import java.util.List;

/** All that can be seen of an object by its calls; what looks at it uses it up. */
final class Look {
    private final BentPlain x;
    private final List<String> seen = new ArrayList<>();
    private int calls = 0;

    private Look(BentPlain x) {
        this.x = x;
    }

    /** The seven counts of findings and their sum, without a change. */
    static long[] findings(BentPlain x) {
        long[] counts = new long[8];
        for (int which = -1; which <= 6; which++) {
            counts[which + 1] = x.status(which);
        }
        return counts;
    }

    /** Every answer, with its call, in an order that depends on the object's state alone. */
    static List<String> at(BentPlain x) {
        Look look = new Look(x);
        look.ground();
        look.sheets();
        look.ask("plain");
        look.ground();
        look.ask("undo");
        look.ground();
        look.ask("tear");
        Due.holds("a look of " + look.calls + " calls leaves room for a script", look.calls <= 400);
        return look.seen;
    }

    private long ask(String name, long... a) {
        long answer = Calls.on(x, name, a);
        calls++;
        seen.add(name + java.util.Arrays.toString(a) + " = " + answer);
        return answer;
    }

    private void ground() {
        long fields = ask("count", 0);
        long walkers = ask("count", 1);
        ask("count", 2);
        for (int f = 0; f < fields; f++) {
            ask("of", f, 0);
            long glued = ask("of", f, 1);
            for (int side = 0; side < 4; side++) {
                if ((glued >> side & 1) != 0) {
                    ask("over", f, side);
                }
            }
        }
        for (int w = 0; w < walkers; w++) {
            for (int what = 0; what <= 4; what++) {
                ask("its", w, what);
            }
        }
    }

    private void sheets() {
        for (int s = 0; s < 4; s++) {
            int i = 0;
            while (ask("write", s, i, 0) > Due.BEYOND) {
                i++;
            }
        }
    }
}
