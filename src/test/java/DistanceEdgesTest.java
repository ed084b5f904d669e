/** Promises 31 to 35: each sentence that names a boundary case. */
public final class DistanceEdgesTest {
    /** A row of 16 from south to north. */
    private static final String ROW = "sides 0-6 4-10 8-14 12-18 16-22 20-26 24-30 28-34 32-38 36-42 40-46 44-50 48-54 52-58"
        + " 56-62";
    /** A stair of 16: east, north, east, and so on. */
    private static final String STAIR = "sides 1-7 4-10 9-15 12-18 17-23 20-26 25-31 28-34 33-39 36-42 41-47 44-50 49-55"
        + " 52-58 57-63";
    /** Two fields apart. */
    private static final String[] APART = {"fields 2"};

    public static void main(String[] args) {
        far();
        smooth();
        turns();
        within();
        mends();
        Due.end();
    }

    private static void far() {
        Script.runOn(APART, "31: 0 to itself", "far 0 0 = 0", "far 1 1 = 0");
        Script.run("31: 15, forth and back", "fields 16", ROW, "far 0 15 = 15", "far 15 0 = 15", "far 14 0 = 14");
        Script.run("31: the fewest", "fields 16", ROW, "sides 2-60", "far 0 15 = 1", "far 0 8 = 8", "far 0 9 = 7");
        Script.runOn(APART, "31: NONE", "far 0 1 = NONE", "far 1 0 = NONE", "sides 0-4", "far 0 1 = 1", "cut 1 0",
            "far 0 1 = NONE");
        Script.runOn(APART, "31: BEYOND", "far -1 0 = BEYOND", "far 2 0 = BEYOND", "far 0 -1 = BEYOND", "far 0 2 = BEYOND",
            "far 2 2 = BEYOND", "far MAX 0 = BEYOND", "far 0 MIN = BEYOND");
        Script.run("31: BEYOND without FIELDS", "far 0 0 = BEYOND");
    }

    private static void smooth() {
        Script.run("32: 0 to itself, though it is rough", "field 9", "sides 0-2", "smooth 0 0 = 0");
        Script.run("32: 135", "field 9", "field 9", "field 9", "field 9", "field 9", "field 9", "field 9", "field 9", "field 9",
            "field 9", "field 9", "field 9", "field 9", "field 9", "field 9", "field 9", ROW, "smooth 0 15 = 135",
            "smooth 15 0 = 135", "rough 0 0", "smooth 0 15 = 135", "smooth 15 0 = 126");
        Script.run("32: as many as one likes", "fields 16", ROW, "sides 2-60", "smooth 0 15 = 0", "rough 15 9",
            "smooth 0 15 = 9", "rough 15 0", "rough 0 9", "smooth 15 1 = 0", "smooth 0 1 = 0");
        Script.run("32: the longer way is the smoother", "field 0", "field 9", "field 0", "field 4", "field 4",
            "sides 0-6 4-10 1-15 13-19 17-11", "smooth 0 2 = 8", "rough 3 5", "smooth 0 2 = 9", "rough 4 5",
            "smooth 0 2 = 9");
        Script.runOn(APART, "32: NONE", "smooth 0 1 = NONE", "smooth 1 0 = NONE");
        Script.runOn(APART, "32: BEYOND", "smooth -1 0 = BEYOND", "smooth 2 0 = BEYOND", "smooth 0 -1 = BEYOND",
            "smooth 0 2 = BEYOND", "smooth MAX 0 = BEYOND", "smooth 0 MIN = BEYOND");
    }

    private static void turns() {
        Script.runOn(APART, "33: 0 to itself, from any HEADING", "turns 0 0 0 = 0", "turns 0 3 0 = 0", "turns 1 2 1 = 0");
        Script.run("33: straight on", "fields 16", ROW, "turns 0 0 15 = 0", "turns 15 2 0 = 0");
        Script.run("33: right and left are 1, back is 2", "fields 16", ROW, "turns 1 0 2 = 0", "turns 1 1 2 = 1",
            "turns 1 2 2 = 2", "turns 1 3 2 = 1", "turns 0 2 15 = 2", "turns 15 0 0 = 2");
        Script.run("33: 14, from another HEADING 15", "fields 16", STAIR, "turns 0 1 15 = 14", "turns 0 0 15 = 15",
            "turns 0 2 15 = 15", "turns 0 3 15 = 16");
        Script.run("33: and back", "fields 16", STAIR, "turns 15 3 0 = 14", "turns 15 0 0 = 15", "turns 15 2 0 = 15",
            "turns 15 1 0 = 16");
        Script.run("33: as many FIELDS as one likes: by a way that is longer", "fields 5", "sides 1-7 4-10 0-14 12-18 16-9",
            "turns 0 1 2 = 1", "turns 0 0 2 = 0", "far 0 2 = 2");
        Script.runOn(APART, "33: NONE", "turns 0 0 1 = NONE", "turns 1 3 0 = NONE");
        Script.runOn(APART, "33: BEYOND: no such FIELD", "turns -1 0 0 = BEYOND", "turns 2 0 0 = BEYOND",
            "turns 0 0 -1 = BEYOND", "turns 0 0 2 = BEYOND", "turns MAX 0 0 = BEYOND", "turns 0 0 MIN = BEYOND");
        Script.runOn(APART, "33: BEYOND: no such HEADING", "turns 0 -1 0 = BEYOND", "turns 0 4 0 = BEYOND",
            "turns 1 -4 0 = BEYOND", "turns 0 MAX 0 = BEYOND", "turns 0 MIN 0 = BEYOND");
        Script.runOn(APART, "33: BEYOND is asked ahead of NONE", "turns 0 4 1 = BEYOND", "status 3 = 0");
    }

    private static void within() {
        Script.run("34: 0: its own alone", "fields 16", ROW, "within 0 0 = 1", "within 15 0 = 1");
        Script.run("34: n or fewer", "fields 16", ROW, "within 0 1 = 2", "within 0 14 = 15", "within 15 14 = 15",
            "within 8 1 = 3");
        Script.run("34: 15 and 16", "fields 16", ROW, "within 0 15 = 16", "within 0 16 = 16", "within 15 16 = 16");
        Script.runOn(APART, "34: not those to which one can't come", "within 0 16 = 1", "within 1 16 = 1");
        Script.runOn(APART, "34: BEYOND: n", "within 0 -1 = BEYOND", "within 0 17 = BEYOND", "within 0 MAX = BEYOND",
            "within 0 MIN = BEYOND");
        Script.runOn(APART, "34: BEYOND: field", "within -1 0 = BEYOND", "within 2 0 = BEYOND", "within MAX 0 = BEYOND",
            "within MIN 0 = BEYOND");
    }

    private static void mends() {
        Script.runOn(APART, "35: it is NONE: the least SIDES of all", "mends 0 1 = 4", "mends 1 0 = 4");
        // 58 to 52 and 53 to 60: 14, 13, 15; free are 59 and 63 alone, and those of fields apart.
        Script.run("35: the greatest SIDES of all", "fields 16", "sides 58-52 53-60 54-55 56-57 61-62", "far 14 15 = 2",
            "mends 14 15 = 3839", "mends 15 14 = 3839", "far 14 15 = 2", "count 3 = 10");
        Script.run("35: less than it is", "fields 2", "sides 0-4", "mends 0 1 = NONE", "mends 1 0 = NONE");
        Script.run("35: 0 is least", "fields 2", "mends 0 0 = NONE", "mends 1 1 = NONE");
        Script.run("35: from 2 to 1", "fields 3", "sides 0-6 4-10", "mends 0 2 = " + (64 + 8), "far 0 2 = 2",
            "mends 0 1 = NONE");
        Script.run("35: the shortest goes ahead of the least", "fields 5", "sides 0-6 4-10 8-14 12-18 2-1", "far 0 4 = 4",
            "mends 0 4 = " + (64 * 3 + 16));
        Script.run("35: no SIDE left at the ends: by two others", "fields 5", "sides 0-6 4-10 8-14 12-18 1-2 3-7 16-17 19-15",
            "far 0 4 = 4", "mends 0 4 = " + (64 * 5 + 13), "mends 4 0 = " + (64 * 5 + 13), "sides 5-13", "far 0 4 = 3",
            "mends 0 4 = NONE");
        Script.run("35: NONE: it would be no less", "fields 4", "sides 0-6 4-10 8-14 1-2 3-7 12-13 15-11", "far 0 3 = 3",
            "mends 0 3 = NONE", "mends 3 0 = NONE");
        // Free are only the last side of 0 and the first of 1.
        Script.run("35: a SIDE and the very next one", "fields 3", "sides 0-8 1-9 2-10 5-6 7-11", "far 0 1 = 2",
            "mends 0 1 = " + (64 * 3 + 4), "mends 1 0 = " + (64 * 3 + 4));
        Script.run("35: NONE: no two SIDES are free", "fields 2", "sides 0-1 2-3 4-5", "mends 0 1 = NONE",
            "mends 1 0 = NONE");
        Script.run("35: NONE: one SIDE is free", "fields 3", "sides 0-1 2-3", "mends 0 1 = NONE", "mends 1 0 = NONE",
            "mends 1 2 = " + (64 * 4 + 8));
        Script.runOn(APART, "35: BEYOND", "mends -1 0 = BEYOND", "mends 2 0 = BEYOND", "mends 0 -1 = BEYOND",
            "mends 0 2 = BEYOND", "mends MAX 0 = BEYOND", "mends 0 MIN = BEYOND");
        Script.run("35: BEYOND is asked ahead of NONE", "fields 1", "mends 0 1 = BEYOND", "mends 1 0 = BEYOND",
            "status 3 = 0");
    }
}
