import java.util.ArrayDeque;
import java.util.ArrayList;
import java.util.Arrays;
import java.util.HashMap;
import java.util.HashSet;
import java.util.List;
import java.util.Map;
import java.util.PriorityQueue;
import java.util.Set;
import java.util.function.BiFunction;
import java.util.regex.Matcher;
import java.util.regex.Pattern;

/**
 * The document once more, written another way (objects, maps, brute force), for RandomRunsTest.
 * A finding is thrown here and counted in one place.
 */
final class PlainModel {
    static final class Finding extends RuntimeException {
        private static final long serialVersionUID = 1L;
        final int number;

        Finding(int number) {
            super(null, null, false, false);
            this.number = number;
        }
    }

    record Way(int field, int heading) {
        int code() {
            return 4 * field + heading;
        }

        Way right(int quarters) {
            return new Way(field, Math.floorMod(heading + quarters, 4));
        }
    }

    record Person(String kind, Way way, int miles, int bumps) {
    }

    /** What an image keeps; never changed but copied. */
    static final class State {
        List<Integer> roughs = new ArrayList<>();
        Map<Way, Way> glue = new HashMap<>();
        List<Person> people = new ArrayList<>();

        State copied() {
            State s = new State();
            s.roughs = new ArrayList<>(roughs);
            s.glue = new HashMap<>(glue);
            s.people = new ArrayList<>(people);
            return s;
        }
    }

    static final List<String> KINDS = List.of("walker", "surveyor", "soldier", "boy", "carter", "cat");
    static final List<String> SIDES = List.of("north", "east", "south", "west");
    static final Map<String, String> ABOVE = Map.of("surveyor", "walker", "soldier", "walker", "boy", "surveyor",
        "carter", "soldier", "cat", "surveyor");

    State state = new State();
    State image;
    StringBuilder tape = new StringBuilder();
    final int[] bits = new int[4];
    final long[][] sheets = new long[4][];
    final int[] found = new int[7];

    // ---- the way in: a call by its name

    long call(String name, long... a) {
        int[] i = new int[6];
        for (int k = 0; k < a.length; k++) {
            i[k] = (int) a[k];
        }
        try {
            return answer(name, i, a.length > 2 ? a[2] : 0);
        } catch (Finding f) {
            found[Due.BEYOND - f.number]++;
            return f.number;
        }
    }

    private long answer(String name, int[] a, long third) {
        switch (name) {
            case "field": return field(a[0]);
            case "of": return of(a[0], a[1]);
            case "rough": return rough(a[0], a[1]);
            case "glue": return glue(a[0], a[1], a[2], a[3]);
            case "cut": return cut(a[0], a[1]);
            case "over": return over(a[0], a[1]);
            case "walker": return walker(a[0], a[1], a[2]);
            case "its": return its(a[0], a[1]);
            case "place": return place(a[0], a[1], a[2]);
            case "turn": return turn(a[0], a[1]);
            case "as": return as(a[0], a[1]);
            case "step": return step(a[0]);
            case "steps": return steps(a[0]);
            case "on": return on(a[0], a[1], a[2]);
            case "when": return when(a[0], a[1]);
            case "back": return back(a[0]);
            case "meet": return meet(a[0], a[1]);
            case "spares": return spares(a[0]);
            case "closes": return closes(a[0], a[1]);
            case "bumps": return bumps(a[0], a[1]);
            case "square": return square(a[0], a[1], a[2]);
            case "dine": return dine(a[0], a[1], a[2], a[3]);
            case "sees": return set(seen(way(a[0], a[1])));
            case "twice": return twice(a[0]);
            case "about": return about(a[0], a[1]);
            case "corners": return rounds().size();
            case "excess": return rounds().stream().mapToInt(r -> 4 - r.size()).sum();
            case "bent": return bent();
            case "parts": return parts();
            case "far": return far(a[0], a[1]);
            case "smooth": return smooth(a[0], a[1]);
            case "turns": return turns(a[0], a[1], a[2]);
            case "within": return within(a[0], a[1]);
            case "mends": return mends(a[0], a[1]);
            case "feed": return feed(a[0], a[1]);
            case "wipe": return wipe();
            case "plain": return plain();
            case "sheet": return sheet(a[0], a[1], a[2]);
            case "write": return write(a[0], a[1], third);
            case "copy": return copy(a[0], a[1], a[2], a[3], a[4]);
            case "lays": return lays(a[0]);
            case "book": return book(a[0], a[1]);
            case "read": return read(a[0], a[1]);
            case "image": image = state.copied(); return 1;
            case "undo": return undo();
            case "tear": return tear();
            case "count": return count(a[0]);
            case "status": return status(a[0]);
            default: throw new AssertionError(name);
        }
    }

    private static void ask(boolean fine, int finding) {
        if (!fine) {
            throw new Finding(finding);
        }
    }

    private static void range(int v, int from, int to) {
        ask(v >= from && v <= to, Due.BEYOND);
    }

    private static int orNone(int v) {
        ask(v >= 0, Due.NONE);
        return v;
    }

    private void aField(int f) {
        range(f, 0, state.roughs.size() - 1);
    }

    private Way way(int f, int h) {
        aField(f);
        range(h, 0, 3);
        return new Way(f, h);
    }

    private Person person(int w) {
        range(w, 0, state.people.size() - 1);
        return state.people.get(w);
    }

    private static int set(Iterable<Integer> numbers) {
        int bits = 0;
        for (int n : numbers) {
            bits |= 1 << n;
        }
        return bits;
    }

    // ---- fields

    private int field(int rough) {
        range(rough, 0, 9);
        ask(state.roughs.size() < 16, Due.FULL);
        state.roughs.add(rough);
        return state.roughs.size() - 1;
    }

    private int of(int f, int what) {
        aField(f);
        range(what, 0, 2);
        if (what == 0) {
            return state.roughs.get(f);
        }
        Set<Integer> numbers = new HashSet<>();
        if (what == 1) {
            state.glue.keySet().stream().filter(s -> s.field() == f).forEach(s -> numbers.add(s.heading()));
        } else {
            for (int w = 0; w < state.people.size(); w++) {
                if (state.people.get(w).way().field() == f) {
                    numbers.add(w);
                }
            }
        }
        return set(numbers);
    }

    private int rough(int f, int v) {
        aField(f);
        range(v, 0, 9);
        return state.roughs.set(f, v);
    }

    private int glue(int f, int s, int g, int t) {
        Way one = way(f, s);
        Way other = way(g, t);
        ask(!one.equals(other), Due.BEYOND);
        ask(!state.glue.containsKey(one) && !state.glue.containsKey(other), Due.STATE);
        state.glue.put(one, other);
        state.glue.put(other, one);
        return 1;
    }

    private int cut(int f, int s) {
        Way one = way(f, s);
        ask(state.glue.containsKey(one), Due.STATE);
        Way other = state.glue.remove(one);
        state.glue.remove(other);
        return other.code();
    }

    private int over(int f, int s) {
        Way other = state.glue.get(way(f, s));
        ask(other != null, Due.NONE);
        return other.code();
    }

    // ---- walkers

    private int walker(int kind, int f, int h) {
        range(kind, 0, 5);
        Way w = way(f, h);
        ask(state.people.size() < 6, Due.FULL);
        state.people.add(new Person(KINDS.get(kind), w, 0, 0));
        return state.people.size() - 1;
    }

    private int its(int w, int what) {
        Person p = person(w);
        range(what, 0, 5);
        int[] all = {KINDS.indexOf(p.kind()), p.way().field(), p.way().heading(), p.miles(), p.bumps(),
            pays(p.kind(), state.roughs.get(p.way().field()))};
        return all[what];
    }

    private static int pays(String kind, int r) {
        switch (kind) {
            case "soldier": return 1 + r / 3;
            case "carter": return 1 + r / 3 + r;
            case "boy": return r == 9 ? 2 : 1;
            default: return 1;
        }
    }

    private static int quarters(String kind, int r, int miles) {
        switch (kind) {
            case "soldier":
            case "carter": return r >= 5 ? 1 : 0;
            case "boy": return miles % 3 == 0 ? -1 : 0;
            case "cat": return miles % 2;
            default: return 0;
        }
    }

    private static final Map<String, Integer> AT_BUMP = Map.of("walker", 2, "surveyor", 3, "soldier", 2, "boy", 3,
        "carter", 5, "cat", 6);

    private Way next(Way w) {
        Way s = state.glue.get(w);
        return s == null ? null : s.right(2);
    }

    private Person stepped(Person p) {
        Way n = next(p.way());
        if (n == null) {
            return new Person(p.kind(), p.way().right(AT_BUMP.get(p.kind())), p.miles(), p.bumps() + 1);
        }
        int r = state.roughs.get(n.field());
        int miles = p.miles() + pays(p.kind(), r);
        return new Person(p.kind(), n.right(quarters(p.kind(), r, miles)), miles, p.bumps());
    }

    private Person later(Person p, int n) {
        Person q = p;
        for (int i = 0; i < n; i++) {
            q = stepped(q);
        }
        return q;
    }

    private int place(int w, int f, int h) {
        Person p = person(w);
        state.people.set(w, new Person(p.kind(), way(f, h), p.miles(), p.bumps()));
        return p.way().code();
    }

    private int turn(int w, int kind) {
        Person p = person(w);
        range(kind, 0, 5);
        state.people.set(w, new Person(KINDS.get(kind), p.way(), p.miles(), p.bumps()));
        return KINDS.indexOf(p.kind());
    }

    private int as(int w, int kind) {
        Person p = person(w);
        range(kind, 0, 5);
        for (String k = p.kind(); k != null; k = ABOVE.get(k)) {
            if (k.equals(KINDS.get(kind))) {
                return p.miles();
            }
        }
        throw new Finding(Due.KIND);
    }

    private int step(int w) {
        state.people.set(w, stepped(person(w)));
        return person(w).way().field();
    }

    private int steps(int n) {
        range(n, 1, 100);
        for (int i = 0; i < n; i++) {
            state.people.replaceAll(this::stepped);
        }
        return miles();
    }

    private int miles() {
        return state.people.stream().mapToInt(Person::miles).sum();
    }

    private int on(int w, int n, int what) {
        Person p = person(w);
        range(n, 0, 100);
        range(what, 0, 3);
        Person q = later(p, n);
        return new int[] {q.way().field(), q.way().heading(), q.miles(), q.bumps()}[what];
    }

    private int when(int w, int f) {
        Person p = person(w);
        aField(f);
        int n = 0;
        while (n <= 100 && later(p, n).way().field() != f) {
            n++;
        }
        return orNone(n > 100 ? -1 : n);
    }

    private int back(int w) {
        Person p = person(w);
        int n = 1;
        while (n <= 200 && !later(p, n).way().equals(p.way())) {
            n++;
        }
        return orNone(n > 200 ? -1 : n);
    }

    private int meet(int one, int other) {
        Person p = person(one);
        Person q = person(other);
        ask(one != other, Due.BEYOND);
        int n = 0;
        while (n <= 100 && later(p, n).way().field() != later(q, n).way().field()) {
            n++;
        }
        return orNone(n > 100 ? -1 : n);
    }

    private int spares(int n) {
        range(n, 0, 100);
        List<Integer> miles = state.people.stream().map(p -> later(p, n).miles()).toList();
        return orNone(miles.isEmpty() ? -1 : miles.indexOf(miles.stream().min(Integer::compare).get()));
    }

    // ---- straight ways

    /** The ways from one on, till it is back on itself or bumps. */
    private List<Way> straight(Way start) {
        List<Way> ways = new ArrayList<>();
        Way w = start;
        do {
            ways.add(w);
            w = next(w);
        } while (w != null && !w.equals(start));
        return ways;
    }

    private boolean isRing(Way start) {
        List<Way> ways = straight(start);
        return next(ways.get(ways.size() - 1)) != null;
    }

    private int closes(int f, int h) {
        Way start = way(f, h);
        return orNone(isRing(start) ? straight(start).size() : -1);
    }

    private int bumps(int f, int h) {
        Way start = way(f, h);
        return orNone(isRing(start) ? -1 : straight(start).size() - 1);
    }

    private int square(int f, int h, int n) {
        Way start = way(f, h);
        range(n, 1, 9);
        Way w = start;
        for (int k = 1; k <= 64; k++) {
            for (int i = 0; i < n; i++) {
                w = next(w);
                ask(w != null, Due.NONE);
            }
            w = w.right(1);
            if (w.equals(start)) {
                return k;
            }
        }
        throw new Finding(Due.NONE);
    }

    private int dine(int f, int h, int g, int i) {
        Way one = way(f, h);
        Way other = way(g, i);
        for (int n = 0; n <= 64; n++) {
            if (one.field() == other.field()) {
                return n;
            }
            one = next(one);
            other = next(other);
            ask(one != null && other != null, Due.NONE);
        }
        throw new Finding(Due.NONE);
    }

    private Set<Integer> seen(Way start) {
        Set<Integer> fields = new HashSet<>();
        straight(start).forEach(w -> fields.add(w.field()));
        return fields;
    }

    private int twice(int f) {
        aField(f);
        int[] times = new int[16];
        for (int h = 0; h < 4; h++) {
            seen(new Way(f, h)).forEach(g -> times[g]++);
        }
        times[f] = 0;
        return (int) Arrays.stream(times).filter(t -> t >= 2).count();
    }

    // ---- corners

    /** The corners about one in the order in which one comes to them; null if it is open. */
    private List<Way> round(Way start) {
        List<Way> corners = new ArrayList<>();
        Way c = start;
        do {
            corners.add(c);
            Way s = state.glue.get(c);
            if (s == null) {
                return null;
            }
            c = new Way(s.field(), (s.heading() + 3) % 4);
        } while (!c.equals(start));
        return corners;
    }

    private Set<Set<Way>> rounds() {
        Set<Set<Way>> all = new HashSet<>();
        for (Way c : allWays()) {
            List<Way> r = round(c);
            if (r != null) {
                all.add(new HashSet<>(r));
            }
        }
        return all;
    }

    private List<Way> allWays() {
        List<Way> ways = new ArrayList<>();
        for (int f = 0; f < state.roughs.size(); f++) {
            for (int h = 0; h < 4; h++) {
                ways.add(new Way(f, h));
            }
        }
        return ways;
    }

    private int about(int f, int c) {
        List<Way> r = round(way(f, c));
        return orNone(r == null ? -1 : r.size());
    }

    private int bent() {
        Set<Integer> fields = new HashSet<>();
        for (Set<Way> r : rounds()) {
            if (r.size() != 4) {
                r.forEach(c -> fields.add(c.field()));
            }
        }
        return set(fields);
    }

    private int parts() {
        Set<Set<Integer>> all = new HashSet<>();
        for (int f = 0; f < state.roughs.size(); f++) {
            all.add(distances(f).keySet());
        }
        return all.size();
    }

    // ---- how far

    private Map<Integer, Integer> distances(int from) {
        Map<Integer, Integer> far = new HashMap<>(Map.of(from, 0));
        ArrayDeque<Integer> queue = new ArrayDeque<>(List.of(from));
        while (!queue.isEmpty()) {
            int f = queue.poll();
            for (int h = 0; h < 4; h++) {
                Way n = next(new Way(f, h));
                if (n != null && !far.containsKey(n.field())) {
                    far.put(n.field(), far.get(f) + 1);
                    queue.add(n.field());
                }
            }
        }
        return far;
    }

    private int far(int f, int g) {
        aField(f);
        aField(g);
        return orNone(distances(f).getOrDefault(g, -1));
    }

    /** The least sums to all ways, by a queue of the least; the steps of one way are told by a function. */
    private Map<Way, Integer> sums(Way from, BiFunction<Way, Integer, Map<Way, Integer>> steps) {
        Map<Way, Integer> done = new HashMap<>();
        PriorityQueue<Map.Entry<Way, Integer>> queue =
            new PriorityQueue<>((x, y) -> Integer.compare(x.getValue(), y.getValue()));
        queue.add(Map.entry(from, 0));
        while (!queue.isEmpty()) {
            Map.Entry<Way, Integer> e = queue.poll();
            if (done.putIfAbsent(e.getKey(), e.getValue()) == null) {
                queue.addAll(steps.apply(e.getKey(), e.getValue()).entrySet());
            }
        }
        return done;
    }

    private int leastOn(Map<Way, Integer> sums, int g) {
        return orNone(sums.entrySet().stream().filter(e -> e.getKey().field() == g)
            .mapToInt(Map.Entry::getValue).min().orElse(-1));
    }

    private int smooth(int f, int g) {
        aField(f);
        aField(g);
        return leastOn(sums(new Way(f, 0), (w, sum) -> {
            Map<Way, Integer> out = new HashMap<>(Map.of(w.right(1), sum));
            Way n = next(w);
            if (n != null) {
                out.merge(n, sum + state.roughs.get(n.field()), Math::min);
            }
            return out;
        }), g);
    }

    private int turns(int f, int h, int g) {
        Way start = way(f, h);
        aField(g);
        return leastOn(sums(start, (w, sum) -> {
            Map<Way, Integer> out = new HashMap<>(Map.of(w.right(1), sum + 1, w.right(3), sum + 1));
            Way n = next(w);
            if (n != null) {
                out.merge(n, sum, Math::min);
            }
            return out;
        }), g);
    }

    private int within(int f, int n) {
        aField(f);
        range(n, 0, 16);
        return (int) distances(f).values().stream().filter(d -> d <= n).count();
    }

    private int mends(int f, int g) {
        aField(f);
        aField(g);
        int best = -1;
        int least = distances(f).getOrDefault(g, 99);
        State was = state;
        for (Way one : allWays()) {
            for (Way other : allWays()) {
                if (one.code() < other.code() && !was.glue.containsKey(one) && !was.glue.containsKey(other)) {
                    state = was.copied();
                    glue(one.field(), one.heading(), other.field(), other.heading());
                    int d = distances(f).getOrDefault(g, 99);
                    if (d < least) {
                        least = d;
                        best = 64 * one.code() + other.code();
                    }
                }
            }
        }
        state = was;
        return orNone(best);
    }

    // ---- the text

    private int feed(int bytes, int n) {
        range(n, 1, 4);
        ask(tape.length() + n <= 120, Due.FULL);
        for (int i = n - 1; i >= 0; i--) {
            tape.append((char) (bytes >>> 8 * i & 255));
        }
        return tape.length();
    }

    private int wipe() {
        int was = tape.length();
        tape.setLength(0);
        return was;
    }

    private static final Pattern TOKEN = Pattern.compile("[a-z]+|[0-9]+|[^ ]");

    private List<String> tokens;
    private List<Integer> places;
    private int at;

    private static final class Fault extends RuntimeException {
        private static final long serialVersionUID = 1L;
    }

    private int plain() {
        tokens = new ArrayList<>();
        places = new ArrayList<>();
        at = 0;
        Matcher m = TOKEN.matcher(tape);
        while (m.find()) {
            tokens.add(m.group());
            places.add(m.start());
        }
        tokens.add("");
        places.add(tape.length());
        tape.setLength(0);
        State was = state.copied();
        try {
            int items = 1;
            item();
            while (!tokens.get(at).isEmpty()) {
                need(tokens.get(at).equals(";"));
                item();
                items++;
            }
            return items;
        } catch (Fault fault) {
            state = was;
            return -1 - places.get(at);
        }
    }

    /** The token here stands, and is gone by, or it is the fault. */
    private String need(boolean stands) {
        if (!stands) {
            throw new Fault();
        }
        return tokens.get(at++);
    }

    private int number(int below) {
        String t = tokens.get(at);
        need(t.matches("0*[0-9]{1,3}") && Integer.parseInt(t.replaceFirst("^0+(?=.)", "")) < below);
        return Integer.parseInt(t.replaceFirst("^0+(?=.)", ""));
    }

    private Way side(int f, java.util.function.Predicate<Way> fine) {
        Way w = new Way(f, SIDES.indexOf(tokens.get(at)));
        need(w.heading() >= 0 && fine.test(w));
        return w;
    }

    private void item() {
        String word = tokens.get(at);
        int fields = state.roughs.size();
        if (word.equals("field")) {
            need(fields < 16);
            int r = 0;
            if (tokens.get(at).equals("rough")) {
                at++;
                r = number(10);
            }
            state.roughs.add(r);
        } else if (word.equals("glue")) {
            at++;
            Way one = side(number(fields), w -> !state.glue.containsKey(w));
            Way other = side(number(fields), w -> !state.glue.containsKey(w) && !w.equals(one));
            glue(one.field(), one.heading(), other.field(), other.heading());
        } else if (word.equals("cut")) {
            at++;
            Way one = side(number(fields), state.glue::containsKey);
            cut(one.field(), one.heading());
        } else {
            need(KINDS.contains(word) && state.people.size() < 6);
            need(tokens.get(at).equals("at"));
            state.people.add(new Person(word, side(number(fields), w -> true), 0, 0));
        }
    }

    // ---- sheets

    private void aSheet(int s) {
        range(s, 0, 3);
        ask(sheets[s] != null, Due.MISSING);
    }

    private int sheet(int s, int b, int n) {
        range(s, 0, 3);
        ask(List.of(0, 8, 16, 64).contains(b), Due.BEYOND);
        ask(n >= 0, Due.SIZE);
        ask(n <= 40, Due.BEYOND);
        bits[s] = b;
        sheets[s] = b == 0 ? null : new long[n];
        return b == 0 ? 0 : n;
    }

    private long write(int s, int i, long v) {
        aSheet(s);
        range(i, 0, sheets[s].length - 1);
        long was = sheets[s][i];
        int away = 64 - bits[s];
        sheets[s][i] = v << away >> away;
        return was;
    }

    private int copy(int s, int from, int t, int to, int n) {
        range(s, 0, 3);
        range(t, 0, 3);
        ask(sheets[s] != null && sheets[t] != null, Due.MISSING);
        ask(bits[s] == bits[t], Due.KIND);
        ask(from >= 0 && to >= 0 && n >= 0, Due.BEYOND);
        ask((long) from + n <= sheets[s].length && (long) to + n <= sheets[t].length, Due.BEYOND);
        long[] was = sheets[s].clone();
        for (int i = 0; i < n; i++) {
            sheets[t][to + i] = was[from + i];
        }
        return n;
    }

    private int lays(int s) {
        aSheet(s);
        int came = 0;
        for (int i = 0; i < sheets[s].length; i++) {
            long v = sheets[s][i];
            if (i < state.roughs.size() && 0 <= v && v < 10) {
                state.roughs.set(i, (int) v);
                came++;
            }
        }
        return came;
    }

    private int book(int s, int w) {
        aSheet(s);
        Person p = person(w);
        for (int i = 0; i < sheets[s].length; i++) {
            sheets[s][i] = later(p, i).way().field();
        }
        return sheets[s].length;
    }

    private int read(int s, int w) {
        aSheet(s);
        Person p = person(w);
        int sum = 0;
        for (Way start : allWays()) {
            Person put = new Person(p.kind(), start, p.miles(), p.bumps());
            boolean fits = true;
            for (int i = 0; i < sheets[s].length && fits; i++) {
                fits = later(put, i).way().field() == sheets[s][i];
            }
            sum += fits ? 1 : 0;
        }
        return sum;
    }

    // ---- images

    private int undo() {
        ask(image != null, Due.NONE);
        state = image.copied();
        return state.roughs.size();
    }

    private int tear() {
        int was = image == null ? 0 : 1;
        image = null;
        return was;
    }

    private int count(int what) {
        range(what, 0, 4);
        return new int[] {state.roughs.size(), state.people.size(), tape.length(), state.glue.size(), miles()}[what];
    }

    private int status(int which) {
        range(which, -1, 6);
        return which < 0 ? Arrays.stream(found).sum() : found[which];
    }
}
