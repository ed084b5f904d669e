import java.util.Arrays;

/**
 * A plain of square fields whose sides are glued to each other, and the walkers on it.
 *
 * A way is held as one number, 4 times its field and its heading; a side, and a corner, likewise.
 * All rows are made with the object and used again: no call makes an object of its own.
 */
public final class BentPlain {
    private static final int BEYOND = -1000000001;
    private static final int FULL = -1000000002;
    private static final int KIND = -1000000003;
    private static final int NONE = -1000000004;
    private static final int STATE = -1000000005;
    private static final int MISSING = -1000000006;
    private static final int SIZE = -1000000007;
    private static final int FINDINGS = 7;

    private static final int MOST_FIELDS = 16;
    private static final int MOST_ROUGH = 9;
    private static final int SIDES = 4;
    /** How many fields lie about a corner where the ground is flat. */
    private static final int FLAT = 4;
    private static final int MOST_WAYS = MOST_FIELDS * SIDES;
    private static final int MOST_WALKERS = 6;
    private static final int MOST_BYTES = 120;
    private static final int MOST_NUMBERS = 40;
    private static final int SHEETS = 4;

    private static final int MOST_STEPS = 100;
    private static final int MOST_STEPS_BACK = 200;
    private static final int MOST_SQUARE = 9;
    private static final int MOST_WITHIN = 16;

    private static final int WALKER = 0;
    private static final int SURVEYOR = 1;
    private static final int SOLDIER = 2;
    private static final int BOY = 3;
    private static final int CARTER = 4;
    private static final int CAT = 5;
    private static final int KINDS = 6;

    /** Stands for a way, a side or a corner where there is none. */
    private static final int NOWHERE = -1;
    /** Above every sum of ways on the plain, and low enough that two of it can be added. */
    private static final int UNREACHED = 1000000;

    private final Ground now = new Ground();
    private final Ground kept = new Ground();
    private final Ground before = new Ground();
    private final Walker probe = new Walker();
    private final Walker otherProbe = new Walker();
    private final int[] distances = new int[MOST_FIELDS];
    private final int[] otherDistances = new int[MOST_FIELDS];
    private final int[] quarters = new int[MOST_WAYS];
    private final Tape tape = new Tape();
    private final Sheet[] sheets = new Sheet[SHEETS];
    private final int[] found = new int[FINDINGS];
    private boolean hasKept;

    public BentPlain() {
        for (int s = 0; s < SHEETS; s++) {
            sheets[s] = new Sheet();
        }
    }

    // ---- fields

    public int field(int rough) {
        if (!isRough(rough)) {
            return tell(BEYOND);
        }
        if (now.fields >= MOST_FIELDS) {
            return tell(FULL);
        }
        return now.addField(rough);
    }

    public int of(int field, int what) {
        if (!now.hasField(field)) {
            return tell(BEYOND);
        }
        switch (what) {
            case 0:
                return now.roughOf(field);
            case 1:
                return now.gluedSidesOf(field);
            case 2:
                return now.walkersOn(field);
            default:
                return tell(BEYOND);
        }
    }

    public int rough(int field, int v) {
        if (!now.hasField(field) || !isRough(v)) {
            return tell(BEYOND);
        }
        int was = now.roughOf(field);
        now.makeRough(field, v);
        return was;
    }

    public int glue(int field, int side, int other, int its) {
        if (!now.hasWay(field, side) || !now.hasWay(other, its)) {
            return tell(BEYOND);
        }
        int one = wayOf(field, side);
        int second = wayOf(other, its);
        if (one == second) {
            return tell(BEYOND);
        }
        if (!now.isFree(one) || !now.isFree(second)) {
            return tell(STATE);
        }
        now.join(one, second);
        return 1;
    }

    public int cut(int field, int side) {
        if (!now.hasWay(field, side)) {
            return tell(BEYOND);
        }
        int one = wayOf(field, side);
        int was = now.gluedTo(one);
        if (was == NOWHERE) {
            return tell(STATE);
        }
        now.sever(one);
        return was;
    }

    public int over(int field, int side) {
        if (!now.hasWay(field, side)) {
            return tell(BEYOND);
        }
        return numberOrNone(now.gluedTo(wayOf(field, side)));
    }

    // ---- walkers

    public int walker(int kind, int field, int heading) {
        if (!isKind(kind) || !now.hasWay(field, heading)) {
            return tell(BEYOND);
        }
        if (now.walkers >= MOST_WALKERS) {
            return tell(FULL);
        }
        return now.addWalker(kind, wayOf(field, heading));
    }

    public int its(int walker, int what) {
        if (!now.hasWalker(walker)) {
            return tell(BEYOND);
        }
        Walker one = now.people[walker];
        switch (what) {
            case 0:
                return one.kind;
            case 1:
                return fieldOf(one.way);
            case 2:
                return headingOf(one.way);
            case 3:
                return one.miles;
            case 4:
                return one.bumped;
            case 5:
                return Walker.payOf(one.kind, now.roughOf(fieldOf(one.way)));
            default:
                return tell(BEYOND);
        }
    }

    public int place(int walker, int field, int heading) {
        if (!now.hasWalker(walker) || !now.hasWay(field, heading)) {
            return tell(BEYOND);
        }
        Walker one = now.people[walker];
        int was = one.way;
        one.way = wayOf(field, heading);
        return was;
    }

    public int turn(int walker, int kind) {
        if (!now.hasWalker(walker) || !isKind(kind)) {
            return tell(BEYOND);
        }
        Walker one = now.people[walker];
        int was = one.kind;
        one.kind = kind;
        return was;
    }

    public int as(int walker, int kind) {
        if (!now.hasWalker(walker) || !isKind(kind)) {
            return tell(BEYOND);
        }
        Walker one = now.people[walker];
        if (!Walker.isUnder(one.kind, kind)) {
            return tell(KIND);
        }
        return one.miles;
    }

    public int step(int walker) {
        if (!now.hasWalker(walker)) {
            return tell(BEYOND);
        }
        Walker one = now.people[walker];
        one.move(now);
        return fieldOf(one.way);
    }

    public int steps(int n) {
        if (n < 1 || n > MOST_STEPS) {
            return tell(BEYOND);
        }
        for (int w = 0; w < now.walkers; w++) {
            // None minds another one, so each may take all its steps at once.
            now.people[w].moveOften(now, n);
        }
        return now.milesOfAll();
    }

    public int on(int walker, int n, int what) {
        if (!now.hasWalker(walker) || !isStepsOn(n)) {
            return tell(BEYOND);
        }
        probe.become(now.people[walker]);
        probe.moveOften(now, n);
        switch (what) {
            case 0:
                return fieldOf(probe.way);
            case 1:
                return headingOf(probe.way);
            case 2:
                return probe.miles;
            case 3:
                return probe.bumped;
            default:
                return tell(BEYOND);
        }
    }

    public int when(int walker, int field) {
        if (!now.hasWalker(walker) || !now.hasField(field)) {
            return tell(BEYOND);
        }
        probe.become(now.people[walker]);
        for (int n = 0; n <= MOST_STEPS; n++) {
            if (fieldOf(probe.way) == field) {
                return n;
            }
            probe.move(now);
        }
        return tell(NONE);
    }

    public int back(int walker) {
        if (!now.hasWalker(walker)) {
            return tell(BEYOND);
        }
        probe.become(now.people[walker]);
        int start = probe.way;
        for (int n = 1; n <= MOST_STEPS_BACK; n++) {
            probe.move(now);
            if (probe.way == start) {
                return n;
            }
        }
        return tell(NONE);
    }

    public int meet(int one, int other) {
        if (!now.hasWalker(one) || !now.hasWalker(other) || one == other) {
            return tell(BEYOND);
        }
        probe.become(now.people[one]);
        otherProbe.become(now.people[other]);
        for (int n = 0; n <= MOST_STEPS; n++) {
            if (fieldOf(probe.way) == fieldOf(otherProbe.way)) {
                return n;
            }
            probe.move(now);
            otherProbe.move(now);
        }
        return tell(NONE);
    }

    public int spares(int n) {
        if (!isStepsOn(n)) {
            return tell(BEYOND);
        }
        int best = NOWHERE;
        int fewest = 0;
        for (int w = 0; w < now.walkers; w++) {
            probe.become(now.people[w]);
            probe.moveOften(now, n);
            if (best == NOWHERE || probe.miles < fewest) {
                best = w;
                fewest = probe.miles;
            }
        }
        return numberOrNone(best);
    }

    // ---- straight ways, square turns (without walkers)

    public int closes(int field, int heading) {
        if (!now.hasWay(field, heading)) {
            return tell(BEYOND);
        }
        int start = wayOf(field, heading);
        int way = start;
        for (int n = 1; n <= MOST_WAYS; n++) {
            way = now.goOn(way);
            if (way == start) {
                return n;
            }
        }
        return tell(NONE);
    }

    public int bumps(int field, int heading) {
        if (!now.hasWay(field, heading)) {
            return tell(BEYOND);
        }
        int way = wayOf(field, heading);
        for (int n = 0; n <= MOST_WAYS; n++) {
            way = now.goOn(way);
            if (way == NOWHERE) {
                return n;
            }
        }
        return tell(NONE);
    }

    public int square(int field, int heading, int n) {
        if (!now.hasWay(field, heading) || n < 1 || n > MOST_SQUARE) {
            return tell(BEYOND);
        }
        int start = wayOf(field, heading);
        int way = start;
        for (int done = 1; done <= MOST_WAYS; done++) {
            way = now.goOnOften(way, n);
            if (way == NOWHERE) {
                return tell(NONE);
            }
            way = turned(way, 1);
            if (way == start) {
                return done;
            }
        }
        return tell(NONE);
    }

    public int dine(int field, int heading, int other, int its) {
        if (!now.hasWay(field, heading) || !now.hasWay(other, its)) {
            return tell(BEYOND);
        }
        int one = wayOf(field, heading);
        int second = wayOf(other, its);
        for (int n = 0; n <= MOST_WAYS; n++) {
            if (fieldOf(one) == fieldOf(second)) {
                return n;
            }
            one = now.goOn(one);
            second = now.goOn(second);
            if (one == NOWHERE || second == NOWHERE) {
                return tell(NONE);
            }
        }
        return tell(NONE);
    }

    public int sees(int field, int heading) {
        if (!now.hasWay(field, heading)) {
            return tell(BEYOND);
        }
        return now.seenFrom(wayOf(field, heading));
    }

    public int twice(int field) {
        if (!now.hasField(field)) {
            return tell(BEYOND);
        }
        int once = 0;
        int again = 0;
        for (int heading = 0; heading < SIDES; heading++) {
            int seen = now.seenFrom(wayOf(field, heading));
            again |= once & seen;
            once |= seen;
        }
        return Integer.bitCount(again & ~(1 << field));
    }

    // ---- corners, what is left over

    public int about(int field, int corner) {
        if (!now.hasWay(field, corner)) {
            return tell(BEYOND);
        }
        long round = now.roundCorner(wayOf(field, corner));
        return round == 0 ? tell(NONE) : Long.bitCount(round);
    }

    public int corners() {
        return now.sumOfCorners(1, 0);
    }

    public int excess() {
        return now.sumOfCorners(FLAT, 1);
    }

    public int bent() {
        int set = 0;
        for (int corner = 0; corner < now.ways(); corner++) {
            long round = now.roundCorner(corner);
            if (round != 0 && Long.bitCount(round) != FLAT) {
                set |= 1 << fieldOf(corner);
            }
        }
        return set;
    }

    public int parts() {
        int told = 0;
        int sum = 0;
        for (int field = 0; field < now.fields; field++) {
            if ((told >> field & 1) == 0) {
                sum++;
                now.spread(distances, field, false);
                told |= reached(UNREACHED - 1);
            }
        }
        return sum;
    }

    // ---- how far

    public int far(int field, int other) {
        return least(field, other, false);
    }

    public int smooth(int field, int other) {
        return least(field, other, true);
    }

    public int turns(int field, int heading, int other) {
        if (!now.hasWay(field, heading) || !now.hasField(other)) {
            return tell(BEYOND);
        }
        now.spreadTurning(quarters, wayOf(field, heading));
        int fewest = UNREACHED;
        for (int h = 0; h < SIDES; h++) {
            fewest = Math.min(fewest, quarters[wayOf(other, h)]);
        }
        return fewest == UNREACHED ? tell(NONE) : fewest;
    }

    public int within(int field, int n) {
        if (!now.hasField(field) || n < 0 || n > MOST_WITHIN) {
            return tell(BEYOND);
        }
        now.spread(distances, field, false);
        return Integer.bitCount(reached(n));
    }

    public int mends(int field, int other) {
        if (!now.hasField(field) || !now.hasField(other)) {
            return tell(BEYOND);
        }
        now.spread(distances, field, false);
        now.spread(otherDistances, other, false);
        int shortest = distances[other];
        int best = NOWHERE;
        for (int side = 0; side < now.ways(); side++) {
            for (int second = side + 1; second < now.ways() && now.isFree(side); second++) {
                int length = farThrough(fieldOf(side), fieldOf(second));
                // The pairs come from the least on, so only a shorter way takes another's place.
                if (length < shortest && now.isFree(second)) {
                    shortest = length;
                    best = MOST_WAYS * side + second;
                }
            }
        }
        return numberOrNone(best);
    }

    // ---- the text

    public int feed(int bytes, int n) {
        if (n < 1 || n > 4) {
            return tell(BEYOND);
        }
        if (tape.length + n > MOST_BYTES) {
            return tell(FULL);
        }
        for (int i = n - 1; i >= 0; i--) {
            tape.add(bytes >> 8 * i & 255);
        }
        return tape.length;
    }

    public int wipe() {
        int was = tape.length;
        tape.length = 0;
        return was;
    }

    public int plain() {
        before.become(now);
        int items = Teller.tellAll(tape, now);
        if (items < 0) {
            now.become(before);
        }
        tape.length = 0;
        return items;
    }

    // ---- sheets

    public int sheet(int s, int bits, int n) {
        if (!isSheet(s) || bits != 0 && bits != 8 && bits != 16 && bits != 64) {
            return tell(BEYOND);
        }
        if (n < 0) {
            return tell(SIZE);
        }
        if (n > MOST_NUMBERS) {
            return tell(BEYOND);
        }
        Sheet one = sheets[s];
        one.begin(bits, bits == 0 ? 0 : n);
        return one.size;
    }

    public long write(int s, int i, long v) {
        int finding = sheetFinding(s);
        if (finding != 0) {
            return tell(finding);
        }
        Sheet one = sheets[s];
        if (i < 0 || i >= one.size) {
            return tell(BEYOND);
        }
        long was = one.numbers[i];
        one.numbers[i] = one.lowestBits(v);
        return was;
    }

    public int copy(int s, int from, int t, int to, int n) {
        if (!isSheet(s) || !isSheet(t)) {
            return tell(BEYOND);
        }
        Sheet one = sheets[s];
        Sheet other = sheets[t];
        if (one.bits == 0 || other.bits == 0) {
            return tell(MISSING);
        }
        if (one.bits != other.bits) {
            return tell(KIND);
        }
        if (!one.hasRow(from, n) || !other.hasRow(to, n)) {
            return tell(BEYOND);
        }
        System.arraycopy(one.numbers, from, other.numbers, to, n);
        return n;
    }

    public int lays(int s) {
        int finding = sheetFinding(s);
        if (finding != 0) {
            return tell(finding);
        }
        Sheet one = sheets[s];
        int came = 0;
        for (int i = 0; i < one.size && i < now.fields; i++) {
            long number = one.numbers[i];
            if (number >= 0 && number <= MOST_ROUGH) {
                now.makeRough(i, (int) number);
                came++;
            }
        }
        return came;
    }

    public int book(int s, int walker) {
        int finding = bookFinding(s, walker);
        if (finding != 0) {
            return tell(finding);
        }
        Sheet one = sheets[s];
        probe.become(now.people[walker]);
        for (int i = 0; i < one.size; i++) {
            one.numbers[i] = fieldOf(probe.way);
            probe.move(now);
        }
        return one.size;
    }

    public int read(int s, int walker) {
        int finding = bookFinding(s, walker);
        if (finding != 0) {
            return tell(finding);
        }
        int sum = 0;
        for (int way = 0; way < now.ways(); way++) {
            probe.become(now.people[walker]);
            probe.way = way;
            if (goesByBook(sheets[s])) {
                sum++;
            }
        }
        return sum;
    }

    // ---- images

    public int image() {
        kept.become(now);
        hasKept = true;
        return 1;
    }

    public int undo() {
        if (!hasKept) {
            return tell(NONE);
        }
        now.become(kept);
        return now.fields;
    }

    public int tear() {
        int was = hasKept ? 1 : 0;
        hasKept = false;
        return was;
    }

    public int count(int what) {
        switch (what) {
            case 0:
                return now.fields;
            case 1:
                return now.walkers;
            case 2:
                return tape.length;
            case 3:
                return now.gluedSides();
            case 4:
                return now.milesOfAll();
            default:
                return tell(BEYOND);
        }
    }

    public int status(int which) {
        if (which < -1 || which >= FINDINGS) {
            return tell(BEYOND);
        }
        if (which >= 0) {
            return found[which];
        }
        int sum = 0;
        for (int i = 0; i < FINDINGS; i++) {
            sum += found[i];
        }
        return sum;
    }

    // ---- what the acts share

    /** Every finding goes out through here, so that status() knows of it. */
    private int tell(int finding) {
        int i = BEYOND - finding;
        if (i >= 0 && i < FINDINGS) {
            found[i]++;
        }
        return finding;
    }

    private int numberOrNone(int number) {
        return number == NOWHERE ? tell(NONE) : number;
    }

    private int least(int field, int other, boolean byRough) {
        if (!now.hasField(field) || !now.hasField(other)) {
            return tell(BEYOND);
        }
        now.spread(distances, field, byRough);
        int sum = distances[other];
        return sum == UNREACHED ? tell(NONE) : sum;
    }

    /** Fields whose distance is n or less, as a set. */
    private int reached(int n) {
        int set = 0;
        for (int field = 0; field < now.fields; field++) {
            if (distances[field] <= n) {
                set |= 1 << field;
            }
        }
        return set;
    }

    /** How far it would be by a new glue of two fields, whichever of them comes first. */
    private int farThrough(int field, int second) {
        int along = distances[field] + otherDistances[second];
        int against = distances[second] + otherDistances[field];
        return Math.min(along, against) + 1;
    }

    /** The finding about a sheet, or 0. */
    private int sheetFinding(int s) {
        if (!isSheet(s)) {
            return BEYOND;
        }
        return sheets[s].bits == 0 ? MISSING : 0;
    }

    private int bookFinding(int s, int walker) {
        int finding = sheetFinding(s);
        if (finding != 0) {
            return finding;
        }
        return now.hasWalker(walker) ? 0 : BEYOND;
    }

    private boolean goesByBook(Sheet book) {
        for (int i = 0; i < book.size; i++) {
            if (book.numbers[i] != fieldOf(probe.way)) {
                return false;
            }
            probe.move(now);
        }
        return true;
    }

    private static boolean isRough(int v) {
        return v >= 0 && v <= MOST_ROUGH;
    }

    private static boolean isKind(int kind) {
        return kind >= 0 && kind < KINDS;
    }

    private static boolean isSheet(int s) {
        return s >= 0 && s < SHEETS;
    }

    private static boolean isStepsOn(int n) {
        return n >= 0 && n <= MOST_STEPS;
    }

    private static int wayOf(int field, int heading) {
        return field * SIDES + heading;
    }

    private static int fieldOf(int way) {
        return way / SIDES;
    }

    private static int headingOf(int way) {
        return way % SIDES;
    }

    /** A way after quarters (0 or more) to the right. */
    private static int turned(int way, int quarters) {
        return wayOf(fieldOf(way), (headingOf(way) + quarters) % SIDES);
    }

    /** One who walks. */
    private static final class Walker {
        int kind;
        int way;
        int miles;
        int bumped;

        void begin(int itsKind, int itsWay) {
            kind = itsKind;
            way = itsWay;
            miles = 0;
            bumped = 0;
        }

        void become(Walker other) {
            kind = other.kind;
            way = other.way;
            miles = other.miles;
            bumped = other.bumped;
        }

        void move(Ground ground) {
            int next = ground.goOn(way);
            if (next == NOWHERE) {
                bumped++;
                way = turned(way, quartersAtBump(kind));
            } else {
                int rough = ground.roughOf(fieldOf(next));
                miles += payOf(kind, rough);
                way = turned(next, quartersOnComing(kind, rough, miles));
            }
        }

        void moveOften(Ground ground, int n) {
            for (int i = 0; i < n; i++) {
                move(ground);
            }
        }

        /** The kind above; a walker is above itself, so that a way up ends there. */
        private static int above(int kind) {
            switch (kind) {
                case BOY:
                case CAT:
                    return SURVEYOR;
                case CARTER:
                    return SOLDIER;
                default:
                    return WALKER;
            }
        }

        /** Is a kind another one, or under it? */
        static boolean isUnder(int kind, int other) {
            int k = kind;
            for (int i = 0; i < KINDS; i++) {
                if (k == other) {
                    return true;
                }
                k = above(k);
            }
            return false;
        }

        private static int payOf(int kind, int rough) {
            switch (kind) {
                case WALKER:
                    return 1;
                case SOLDIER:
                    return payOf(above(kind), rough) + rough / 3;
                case CARTER:
                    return payOf(above(kind), rough) + rough;
                case BOY:
                    return payOf(above(kind), rough) + (rough == 9 ? 1 : 0);
                default:
                    return payOf(above(kind), rough);
            }
        }

        private static int quartersOnComing(int kind, int rough, int miles) {
            switch (kind) {
                case WALKER:
                    return 0;
                case SOLDIER:
                    return rough >= 5 ? 1 : quartersOnComing(above(kind), rough, miles);
                case BOY:
                    return miles % 3 == 0 ? 3 : quartersOnComing(above(kind), rough, miles);
                case CAT:
                    return quartersOnComing(above(kind), rough, miles) + (miles % 2 == 0 ? 0 : 1);
                default:
                    return quartersOnComing(above(kind), rough, miles);
            }
        }

        private static int quartersAtBump(int kind) {
            switch (kind) {
                case WALKER:
                    return 2;
                case SURVEYOR:
                    return 3;
                case CARTER:
                    return quartersAtBump(above(kind)) + 3;
                case CAT:
                    return 2 * quartersAtBump(above(kind));
                default:
                    return quartersAtBump(above(kind));
            }
        }
    }

    /** Fields, their glue, and walkers on them: what an image keeps. */
    private static final class Ground {
        int fields;
        int walkers;
        final Walker[] people = new Walker[MOST_WALKERS];
        private final int[] roughs = new int[MOST_FIELDS];
        private final int[] glued = new int[MOST_WAYS];

        Ground() {
            for (int w = 0; w < MOST_WALKERS; w++) {
                people[w] = new Walker();
            }
        }

        void become(Ground other) {
            fields = other.fields;
            walkers = other.walkers;
            System.arraycopy(other.roughs, 0, roughs, 0, MOST_FIELDS);
            System.arraycopy(other.glued, 0, glued, 0, MOST_WAYS);
            for (int w = 0; w < MOST_WALKERS; w++) {
                people[w].become(other.people[w]);
            }
        }

        boolean hasField(int field) {
            return field >= 0 && field < fields;
        }

        boolean hasWay(int field, int side) {
            return hasField(field) && side >= 0 && side < SIDES;
        }

        boolean hasWalker(int walker) {
            return walker >= 0 && walker < walkers;
        }

        /** How many ways there are; so many sides and corners, too. */
        int ways() {
            return fields * SIDES;
        }

        /** The new field's number; NOWHERE if there is no room. */
        int addField(int rough) {
            if (fields >= MOST_FIELDS) {
                return NOWHERE;
            }
            int field = fields;
            roughs[field] = rough;
            for (int side = 0; side < SIDES; side++) {
                glued[wayOf(field, side)] = NOWHERE;
            }
            fields++;
            return field;
        }

        /** The new walker's number; NOWHERE if there is no room. */
        int addWalker(int kind, int way) {
            if (walkers >= MOST_WALKERS) {
                return NOWHERE;
            }
            people[walkers].begin(kind, way);
            walkers++;
            return walkers - 1;
        }

        int roughOf(int field) {
            return hasField(field) ? roughs[field] : 0;
        }

        void makeRough(int field, int rough) {
            if (hasField(field)) {
                roughs[field] = rough;
            }
        }

        int gluedTo(int side) {
            return side >= 0 && side < ways() ? glued[side] : NOWHERE;
        }

        boolean isFree(int side) {
            return gluedTo(side) == NOWHERE;
        }

        void join(int side, int other) {
            if (side >= 0 && side < ways() && other >= 0 && other < ways()) {
                glued[side] = other;
                glued[other] = side;
            }
        }

        void sever(int side) {
            int other = gluedTo(side);
            if (other != NOWHERE) {
                glued[side] = NOWHERE;
                glued[other] = NOWHERE;
            }
        }

        int gluedSidesOf(int field) {
            int set = 0;
            for (int side = 0; side < SIDES; side++) {
                if (!isFree(wayOf(field, side))) {
                    set |= 1 << side;
                }
            }
            return set;
        }

        int gluedSides() {
            int sum = 0;
            for (int side = 0; side < ways(); side++) {
                if (!isFree(side)) {
                    sum++;
                }
            }
            return sum;
        }

        int walkersOn(int field) {
            int set = 0;
            for (int w = 0; w < walkers; w++) {
                if (fieldOf(people[w].way) == field) {
                    set |= 1 << w;
                }
            }
            return set;
        }

        int milesOfAll() {
            int sum = 0;
            for (int w = 0; w < walkers; w++) {
                sum += people[w].miles;
            }
            return sum;
        }

        /** The way a field further on; NOWHERE if it bumps. */
        int goOn(int way) {
            int side = gluedTo(way);
            return side == NOWHERE ? NOWHERE : turned(side, 2);
        }

        int goOnOften(int way, int n) {
            int reached = way;
            for (int i = 0; i < n; i++) {
                reached = goOn(reached);
            }
            return reached;
        }

        /** Fields on a straight way, as a set; no way is longer than there are ways. */
        int seenFrom(int start) {
            int set = 0;
            int way = start;
            for (int n = 0; n < MOST_WAYS && way != NOWHERE; n++) {
                set |= 1 << fieldOf(way);
                way = goOn(way);
            }
            return set;
        }

        /** Corners about a corner, as a set; empty if it is open. */
        long roundCorner(int start) {
            long set = 0;
            int corner = start;
            for (int n = 0; n < MOST_WAYS; n++) {
                set |= 1L << corner;
                int side = gluedTo(corner);
                if (side == NOWHERE) {
                    return 0;
                }
                corner = turned(side, 3);
                if (corner == start) {
                    return set;
                }
            }
            return 0;
        }

        /** For each corner that isn't open, once: a number, less another for each about it. */
        int sumOfCorners(int each, int less) {
            long told = 0;
            int sum = 0;
            for (int corner = 0; corner < ways(); corner++) {
                if ((told >> corner & 1) == 0) {
                    long round = roundCorner(corner);
                    sum += round == 0 ? 0 : each - less * Long.bitCount(round);
                    told |= round;
                }
            }
            return sum;
        }

        /** Fills a row with the least sums from a field to each: of rough, or of fields. */
        void spread(int[] row, int from, boolean byRough) {
            Arrays.fill(row, UNREACHED);
            lower(row, from, 0);
            boolean changed = true;
            for (int round = 0; round < MOST_FIELDS && changed; round++) {
                changed = false;
                for (int way = 0; way < ways(); way++) {
                    int next = goOn(way);
                    if (next != NOWHERE) {
                        int cost = byRough ? roughOf(fieldOf(next)) : 1;
                        changed |= lower(row, fieldOf(next), row[fieldOf(way)] + cost);
                    }
                }
            }
        }

        /** Fills a row with the fewest quarters from a way to each. */
        void spreadTurning(int[] row, int from) {
            Arrays.fill(row, UNREACHED);
            lower(row, from, 0);
            boolean changed = true;
            for (int round = 0; round < MOST_WAYS && changed; round++) {
                changed = false;
                for (int way = 0; way < ways(); way++) {
                    changed |= lower(row, goOn(way), row[way]);
                    changed |= lower(row, turned(way, 1), row[way] + 1);
                    changed |= lower(row, turned(way, 3), row[way] + 1);
                }
            }
        }

        /** Puts a sum into a row if it is less than what is there. */
        private static boolean lower(int[] row, int i, int sum) {
            if (i < 0 || i >= row.length || row[i] <= sum) {
                return false;
            }
            row[i] = sum;
            return true;
        }
    }

    /** A row of numbers of some bits; of no bits while it is missing. */
    private static final class Sheet {
        int bits;
        int size;
        final long[] numbers = new long[MOST_NUMBERS];

        void begin(int itsBits, int itsSize) {
            bits = itsBits;
            size = itsSize;
            Arrays.fill(numbers, 0L);
        }

        boolean hasRow(int from, int n) {
            return from >= 0 && n >= 0 && n <= size && from <= size - n;
        }

        long lowestBits(long v) {
            switch (bits) {
                case 8:
                    return (byte) v;
                case 16:
                    return (short) v;
                default:
                    return v;
            }
        }
    }

    /** The tape, and the token at which its reading stands. */
    private static final class Tape {
        static final int END = 0;
        static final int SIGN = 1;
        private static final int WORD = 2;
        private static final int NUMBER = 3;
        private static final int NO_TOKEN = 4;
        /** Stands for all numbers above those that may be. */
        private static final int TOO_MUCH = 1000;

        int length;
        int sort;
        int start;
        int number;
        private int end;
        private final int[] bytes = new int[MOST_BYTES];

        void add(int value) {
            if (length < MOST_BYTES) {
                bytes[length] = value;
                length++;
            }
        }

        void begin() {
            end = 0;
            advance();
        }

        void advance() {
            start = end;
            while (start < length && bytes[start] == ' ') {
                start++;
            }
            end = start;
            number = 0;
            while (end < length && isLetter(bytes[end])) {
                end++;
            }
            if (end > start) {
                sort = WORD;
                return;
            }
            while (end < length && isDigit(bytes[end])) {
                number = Math.min(number * 10 + bytes[end] - '0', TOO_MUCH);
                end++;
            }
            if (end > start) {
                sort = NUMBER;
                return;
            }
            if (start >= length) {
                sort = END;
                return;
            }
            sort = bytes[start] == ';' ? SIGN : NO_TOKEN;
            end++;
        }

        boolean isNumberBelow(int limit) {
            return sort == NUMBER && number < limit;
        }

        boolean isWord(String word) {
            if (sort != WORD || end - start != word.length()) {
                return false;
            }
            for (int i = 0; i < word.length(); i++) {
                if (bytes[start + i] != word.charAt(i)) {
                    return false;
                }
            }
            return true;
        }

        private static boolean isLetter(int value) {
            return value >= 'a' && value <= 'z';
        }

        private static boolean isDigit(int value) {
            return value >= '0' && value <= '9';
        }
    }

    /**
     * Tells the text of a plain to the ground.
     * What refuses a token does not take it: the fault is then where the tape stands.
     */
    private static final class Teller {
        /** How many items, or -1 less the fault's place (the ground is then told in part). */
        static int tellAll(Tape tape, Ground ground) {
            tape.begin();
            for (int items = 1; items <= MOST_BYTES + 1; items++) {
                if (!tellItem(tape, ground)) {
                    return -1 - tape.start;
                }
                if (tape.sort == Tape.END) {
                    return items;
                }
                if (tape.sort != Tape.SIGN) {
                    return -1 - tape.start;
                }
                tape.advance();
            }
            return -1 - tape.start;
        }

        private static boolean tellItem(Tape tape, Ground ground) {
            if (tape.isWord("field")) {
                return tellField(tape, ground);
            }
            if (tape.isWord("glue")) {
                return tellGlue(tape, ground);
            }
            if (tape.isWord("cut")) {
                return tellCut(tape, ground);
            }
            return tellWalker(tape, ground);
        }

        private static boolean tellField(Tape tape, Ground ground) {
            if (ground.fields >= MOST_FIELDS) {
                return false;
            }
            tape.advance();
            int rough = 0;
            if (tape.isWord("rough")) {
                tape.advance();
                if (!tape.isNumberBelow(MOST_ROUGH + 1)) {
                    return false;
                }
                rough = tape.number;
                tape.advance();
            }
            ground.addField(rough);
            return true;
        }

        private static boolean tellGlue(Tape tape, Ground ground) {
            tape.advance();
            int one = lookAtSide(tape, ground);
            if (one == NOWHERE || !ground.isFree(one)) {
                return false;
            }
            tape.advance();
            int other = lookAtSide(tape, ground);
            if (other == NOWHERE || !ground.isFree(other) || other == one) {
                return false;
            }
            tape.advance();
            ground.join(one, other);
            return true;
        }

        private static boolean tellCut(Tape tape, Ground ground) {
            tape.advance();
            int side = lookAtSide(tape, ground);
            if (side == NOWHERE || ground.isFree(side)) {
                return false;
            }
            tape.advance();
            ground.sever(side);
            return true;
        }

        private static boolean tellWalker(Tape tape, Ground ground) {
            int kind = kindNamed(tape);
            if (kind == NOWHERE || ground.walkers >= MOST_WALKERS) {
                return false;
            }
            tape.advance();
            if (!tape.isWord("at")) {
                return false;
            }
            tape.advance();
            int way = lookAtSide(tape, ground);
            if (way == NOWHERE) {
                return false;
            }
            tape.advance();
            ground.addWalker(kind, way);
            return true;
        }

        /** Takes a field's number and looks at the side behind it, which may yet be refused. */
        private static int lookAtSide(Tape tape, Ground ground) {
            if (!tape.isNumberBelow(ground.fields)) {
                return NOWHERE;
            }
            int field = tape.number;
            tape.advance();
            int side = sideNamed(tape);
            return side == NOWHERE ? NOWHERE : wayOf(field, side);
        }

        private static int sideNamed(Tape tape) {
            for (int side = 0; side < SIDES; side++) {
                if (tape.isWord(sideName(side))) {
                    return side;
                }
            }
            return NOWHERE;
        }

        private static int kindNamed(Tape tape) {
            for (int kind = 0; kind < KINDS; kind++) {
                if (tape.isWord(kindName(kind))) {
                    return kind;
                }
            }
            return NOWHERE;
        }

        private static String sideName(int side) {
            switch (side) {
                case 0:
                    return "north";
                case 1:
                    return "east";
                case 2:
                    return "south";
                default:
                    return "west";
            }
        }

        private static String kindName(int kind) {
            switch (kind) {
                case WALKER:
                    return "walker";
                case SURVEYOR:
                    return "surveyor";
                case SOLDIER:
                    return "soldier";
                case BOY:
                    return "boy";
                case CARTER:
                    return "carter";
                default:
                    return "cat";
            }
        }
    }
}
