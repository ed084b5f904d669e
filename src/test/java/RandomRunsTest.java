import java.util.ArrayList;
import java.util.Collections;
import java.util.List;
import java.util.Random;

/** Runs of calls drawn from fixed seeds: the program's answers against those of PlainModel. */
public final class RandomRunsTest {
    private static final int RUNS = 2500;
    /** An object is used for at most so many calls; the last ones look at all that there is. */
    private static final int MOST_CALLS = 512;
    private static final int LAST_CALLS = 240;
    private static final String[] NAMES = ("field of rough glue cut over walker its place turn as step steps on when back"
        + " meet spares closes bumps square dine sees twice about corners excess bent parts far smooth turns within mends"
        + " text wipe plain sheet write copy lays book read image undo tear count status").split(" ");
    private static final String[] WORDS = {"field", "field rough 7", "field rough 10", "glue", "cut", "walker at", "cat at",
        "boy at", "carter at", "soldier", "surveyor at", "at", "rough", "0", "1", "2", "3", "15", "16", "007", "1000", "north",
        "east", "south", "west", ";", ";", ";", "!", "dog"};
    private static final String[] SIDES = {"north", "east", "south", "west"};

    private final Random random;
    private final BentPlain x = new BentPlain();
    private final PlainModel model = new PlainModel();
    private final int run;
    private final int fields;
    private int calls = 0;

    private RandomRunsTest(int run) {
        this.run = run;
        random = new Random(run);
        fields = 1 + random.nextInt(16);
    }

    public static void main(String[] args) {
        for (int run = 0; run < RUNS; run++) {
            RandomRunsTest test = new RandomRunsTest(run);
            test.begin();
            while (test.calls < MOST_CALLS - LAST_CALLS) {
                test.callOne();
            }
            test.lookAtAll();
        }
        Due.end();
    }

    /** Most runs begin with fields and much glue, so that ways are long and corners closed. */
    private void begin() {
        for (int f = 0; f < fields; f++) {
            due("field", random.nextInt(10));
        }
        List<Integer> free = new ArrayList<>();
        for (int side = 0; side < 4 * fields; side++) {
            free.add(side);
        }
        Collections.shuffle(free, random);
        for (int i = random.nextInt(2 * fields + 1); i > 0; i--) {
            glueFirst(free);
        }
        int people = random.nextInt(7);
        for (int w = 0; w < people; w++) {
            due("walker", random.nextInt(6), random.nextInt(fields), random.nextInt(4));
        }
    }

    /** Glues the first free side to another one, most times to one that lies opposite. */
    private void glueFirst(List<Integer> free) {
        int side = free.remove(0);
        int at = random.nextInt(free.size());
        for (int i = 0; i < free.size() && random.nextInt(20) != 0; i++) {
            if (free.get(i) % 4 == (side + 2) % 4) {
                at = i;
                break;
            }
        }
        int other = free.remove(at);
        due("glue", side / 4, side % 4, other / 4, other % 4);
    }

    private void callOne() {
        String name = NAMES[random.nextInt(NAMES.length)];
        switch (name) {
            case "text":
                text();
                break;
            case "write":
                due(name, pick(4), pick(10), random.nextBoolean() ? random.nextLong() : random.nextInt(12));
                break;
            case "sheet":
                due(name, pick(4), new int[] {0, 8, 16, 64, 64, 16, 8, 32}[random.nextInt(8)],
                    random.nextInt(8) == 0 ? pick(41) : random.nextInt(12));
                break;
            case "copy":
                due(name, pick(4), pick(6), pick(4), pick(6), pick(6));
                break;
            case "steps":
            case "spares":
                due(name, pick(101));
                break;
            case "on":
                due(name, pick(6), pick(101), pick(4));
                break;
            case "square":
                due(name, pick(fields), pick(4), pick(10));
                break;
            case "within":
                due(name, pick(fields), pick(17));
                break;
            case "rough":
                due(name, pick(fields), pick(10));
                break;
            case "field":
                if (random.nextInt(4) == 0) {
                    due(name, pick(10));
                }
                break;
            default:
                plainCall(name);
        }
    }

    /** Calls whose arguments are fields, walkers, headings and kinds. */
    private void plainCall(String name) {
        switch (name) {
            case "of": due(name, pick(fields), pick(3)); break;
            case "its": due(name, pick(6), pick(6)); break;
            case "glue": case "dine": due(name, pick(fields), pick(4), pick(fields), pick(4)); break;
            case "cut": case "over": case "closes": case "bumps": case "sees": case "about":
                due(name, pick(fields), pick(4)); break;
            case "walker": due(name, pick(6), pick(fields), pick(4)); break;
            case "place": due(name, pick(6), pick(fields), pick(4)); break;
            case "turn": case "as": case "meet": due(name, pick(6), pick(6)); break;
            case "step": case "back": due(name, pick(6)); break;
            case "when": due(name, pick(6), pick(fields)); break;
            case "twice": due(name, pick(fields)); break;
            case "far": case "smooth": case "mends": due(name, pick(fields), pick(fields)); break;
            case "turns": due(name, pick(fields), pick(4), pick(fields)); break;
            case "lays": due(name, pick(4)); break;
            case "book": case "read": due(name, pick(4), pick(6)); break;
            case "count": due(name, pick(5)); break;
            case "status": due(name, random.nextInt(10) - 2); break;
            default: due(name);
        }
    }

    /** A number below a bound most times; else one about its edges or far away. */
    private int pick(int bound) {
        if (random.nextInt(12) != 0) {
            return random.nextInt(bound);
        }
        int[] odd = {-1, bound, bound - 1, 0, Integer.MAX_VALUE, Integer.MIN_VALUE, 1 << 30, -bound};
        return odd[random.nextInt(odd.length)];
    }

    private void text() {
        StringBuilder text = new StringBuilder();
        int items = 1 + random.nextInt(5);
        for (int i = 0; i < items; i++) {
            text.append(i == 0 ? "" : ";").append(item());
        }
        if (random.nextInt(4) == 0) {
            int at = random.nextInt(text.length() + 1);
            text.insert(at, WORDS[random.nextInt(WORDS.length)]);
        }
        if (random.nextInt(6) == 0) {
            text.setLength(random.nextInt(text.length() + 1));
        }
        if (random.nextInt(12) == 0) {
            text.append((char) random.nextInt(256));
        }
        for (int i = 0; i < text.length(); i++) {
            due("feed", text.charAt(i) | random.nextInt() << 8, 1);
        }
        if (random.nextInt(4) != 0) {
            due("plain");
        }
        if (random.nextInt(8) == 0) {
            due("feed", random.nextInt(), pick(5));
        }
    }

    private String item() {
        String blank = random.nextInt(5) == 0 ? "  " : " ";
        String end = random.nextInt(5) == 0 ? " " : "";
        switch (random.nextInt(8)) {
            case 0: return "field" + end;
            case 1: return "field" + blank + "rough" + blank + random.nextInt(11) + end;
            case 2: case 3: return "glue" + blank + side() + blank + side() + end;
            case 4: case 5: return "cut" + blank + side() + end;
            case 6: return PlainModel.KINDS.get(random.nextInt(6)) + blank + "at" + blank + side() + end;
            default: return WORDS[random.nextInt(WORDS.length)] + blank + WORDS[random.nextInt(WORDS.length)] + end;
        }
    }

    private String side() {
        return random.nextInt(fields + 1) + " " + SIDES[random.nextInt(4)];
    }

    private void lookAtAll() {
        for (int f = 0; f < 17; f++) {
            for (int i = 0; i < 4; i++) {
                if (i < 3) {
                    due("of", f, i);
                }
                due("over", f, i);
                due("about", f, i);
            }
        }
        for (int w = 0; w < 7; w++) {
            for (int what = 0; what < 6; what++) {
                due("its", w, what);
            }
        }
        for (int which = -1; which < 7; which++) {
            due("status", which);
        }
    }

    private void due(String name, long... a) {
        if (calls == MOST_CALLS) {
            return;
        }
        calls++;
        long got = Calls.on(x, name, a);
        long want = model.call(name, a);
        if (got != want) {
            Due.is("run " + run + ": " + name + java.util.Arrays.toString(a), got, want);
        }
    }
}
