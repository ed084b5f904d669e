/** Promises 20 to 25: each sentence that names a boundary case. */
public final class WaysEdgesTest {
    /** 0, 1, 2, 3 in a row from west to east. */
    private static final String[] ROW = {"fields 4", "sides 1-7 5-11 9-15"};
    /** The same row closed to a ring. */
    private static final String[] RING = {"fields 4", "sides 1-7 5-11 9-15 13-3"};
    /** Through all 16 to the east, and through all again to the north. */
    private static final String[] LONG = {"fields 16", "sides 1-7 5-11 9-15 13-19 17-23 21-27 25-31 29-35 33-39 37-43 41-47"
        + " 45-51 49-55 53-59 57-63 0-6 4-10 8-14 12-18 16-22 20-26 24-30 28-34 32-38 36-42 40-46 44-50 48-54 52-58 56-62"
        + " 61-2"};
    /** Two rings with 0 in common: of 9 to the east (0 to 8), of 8 to the north (0, 9 to 15). */
    private static final String[] RINGS = {"fields 16", "sides 1-7 5-11 9-15 13-19 17-23 21-27 25-31 29-35 33-3 0-38 36-42"
        + " 40-46 44-50 48-54 52-58 56-62 60-2"};
    /** Two sides glued, and the other two: one turn brings home. */
    private static final String[] PILLOW = {"fields 1", "sides 0-1 2-3"};

    public static void main(String[] args) {
        closes();
        bumps();
        square();
        dine();
        sees();
        twice();
        Due.end();
    }

    private static void closes() {
        Script.run("20: in 1", "fields 1", "sides 0-2", "closes 0 0 = 1", "closes 0 2 = 1");
        Script.runOn(RING, "20: back on itself from each FIELD, both ways", "closes 0 1 = 4", "closes 3 1 = 4",
            "closes 0 3 = 4", "closes 3 3 = 4");
        Script.runOn(PILLOW, "20: the FIELD and the HEADING", "closes 0 0 = 2", "closes 0 3 = 2");
        Script.runOn(LONG, "20: the longest way", "closes 0 1 = NONE", "sides 60-3", "closes 0 1 = 32", "closes 15 2 = 32");
        Script.runOn(ROW, "20: NONE: it BUMPS", "closes 0 1 = NONE", "closes 0 3 = NONE", "closes 3 3 = NONE",
            "closes 0 0 = NONE");
        Script.runOn(RING, "20: BEYOND: no such FIELD", "closes -1 1 = BEYOND", "closes 4 1 = BEYOND",
            "closes MAX 1 = BEYOND", "closes MIN 1 = BEYOND");
        Script.runOn(RING, "20: BEYOND: no such HEADING", "closes 0 -1 = BEYOND", "closes 0 4 = BEYOND",
            "closes 1 -3 = BEYOND", "closes 0 5 = BEYOND", "closes 0 MAX = BEYOND", "closes 0 MIN = BEYOND");
    }

    private static void bumps() {
        Script.runOn(ROW, "21: 0", "bumps 0 0 = 0", "bumps 3 1 = 0", "bumps 0 3 = 0");
        Script.runOn(ROW, "21: till it BUMPS", "bumps 0 1 = 3", "bumps 2 1 = 1", "bumps 3 3 = 3");
        Script.runOn(LONG, "21: the longest way", "bumps 0 1 = 31", "bumps 15 2 = 31", "bumps 15 1 = 16");
        Script.runOn(RING, "21: NONE: it doesn't", "bumps 0 1 = NONE", "bumps 2 3 = NONE", "bumps 2 0 = 0");
        Script.run("21: NONE in 1", "fields 1", "sides 1-3", "bumps 0 1 = NONE", "bumps 0 0 = 0");
        Script.runOn(ROW, "21: BEYOND: no such FIELD", "bumps -1 1 = BEYOND", "bumps 4 1 = BEYOND", "bumps MAX 1 = BEYOND",
            "bumps MIN 1 = BEYOND");
        Script.runOn(ROW, "21: BEYOND: no such HEADING", "bumps 0 -1 = BEYOND", "bumps 0 4 = BEYOND", "bumps 1 -3 = BEYOND",
            "bumps 0 MAX = BEYOND", "bumps 0 MIN = BEYOND");
    }

    private static void square() {
        Script.runOn(PILLOW, "22: 1 turn, of 1 FIELD", "square 0 0 1 = 1", "square 0 1 1 = 2");
        Script.run("22: n is 9", "fields 1", "sides 0-2 1-3", "square 0 0 9 = 4", "square 0 3 9 = 4");
        Script.run("22: n is 9, not 8", "fields 9", "sides 0-6 4-10 8-14 12-18 16-22 20-26 24-30 28-34 32-2",
            "square 0 0 9 = NONE", "sides 1-3", "square 0 0 9 = 4", "square 0 0 8 = NONE");
        // Found by trying; with all sides glued no way of 64 closes.
        String[] most = {"fields 16", "sides 12-46 5-59 9-20 13-10 47-49 25-54 60-23 1-33 44-52 19-63 39-58 28-2 35-53 57-32"
            + " 27-51 16-0 6-43 4-11 56-3 42-24 36-18 48-62 37-61 30-31 29-45 38-8 17-21 50-22 55-34 26-40 7-15 41-14"};
        Script.runOn(most, "22: 63 turns", "square 0 0 1 = 63", "square 1 0 1 = 63", "square 15 2 1 = 63");
        Script.run("22: three right angles and home", "fields 3", "sides 0-6 1-11 5-8", "square 0 0 1 = 3",
            "square 1 1 1 = 3", "square 2 2 1 = NONE");
        Script.runOn(ROW, "22: NONE: it BUMPS at once", "square 0 0 1 = NONE", "square 3 1 1 = NONE");
        Script.runOn(ROW, "22: NONE: it BUMPS behind a turn", "square 0 1 1 = NONE");
        Script.runOn(ROW, "22: NONE: it BUMPS ahead of a turn", "square 0 1 4 = NONE");
        Script.runOn(PILLOW, "22: BEYOND: n below 1", "square 0 0 0 = BEYOND", "square 0 0 -1 = BEYOND",
            "square 0 0 MIN = BEYOND");
        Script.runOn(PILLOW, "22: BEYOND: n above 9", "square 0 0 10 = BEYOND", "square 0 0 MAX = BEYOND");
        Script.runOn(PILLOW, "22: BEYOND: no such FIELD", "square -1 0 1 = BEYOND", "square 1 0 1 = BEYOND",
            "square MAX 0 1 = BEYOND", "square MIN 0 1 = BEYOND");
        Script.runOn(PILLOW, "22: BEYOND: no such HEADING", "square 0 -1 1 = BEYOND", "square 0 4 1 = BEYOND",
            "square 0 MAX 1 = BEYOND", "square 0 MIN 1 = BEYOND");
        Script.runOn(ROW, "22: BEYOND is asked ahead of NONE", "square 0 0 0 = BEYOND", "square 0 0 10 = BEYOND",
            "status 3 = 0");
    }

    private static void dine() {
        Script.runOn(ROW, "23: 0 if both are there, though both BUMP", "dine 0 0 0 0 = 0", "dine 3 1 3 2 = 0");
        Script.run("23: 1, though both BUMP behind it", "fields 3", "sides 1-4 8-7", "bumps 0 1 = 1", "bumps 2 0 = 1",
            "dine 0 1 2 0 = 1", "dine 2 0 0 1 = 1");
        Script.runOn(RINGS, "23: 63", "dine 0 1 9 0 = 63");
        Script.runOn(RINGS, "23: 64", "dine 8 1 0 0 = 64", "dine 0 0 8 1 = 64");
        Script.runOn(RINGS, "23: NONE: 65 are too many", "dine 7 1 15 0 = NONE", "dine 15 0 7 1 = NONE");
        Script.runOn(RING, "23: NONE: they pass each other", "dine 0 1 1 3 = NONE", "dine 0 1 3 3 = NONE");
        Script.runOn(ROW, "23: NONE: the one BUMPS ahead of that", "dine 3 1 0 1 = NONE", "dine 2 0 0 1 = NONE");
        Script.runOn(ROW, "23: NONE: the other BUMPS ahead of that", "dine 0 1 3 1 = NONE", "dine 0 1 2 0 = NONE");
        Script.runOn(RING, "23: NONE: one BUMPS, though the other comes there, or goes round for ever", "dine 2 0 0 1 = NONE",
            "dine 0 1 2 0 = NONE", "dine 0 1 2 2 = NONE", "dine 2 2 1 3 = NONE");
        Script.runOn(ROW, "23: BEYOND: no such FIELD", "dine -1 0 0 0 = BEYOND", "dine 4 0 0 0 = BEYOND",
            "dine 0 0 -1 0 = BEYOND", "dine 0 0 4 0 = BEYOND", "dine MAX 0 MAX 0 = BEYOND", "dine MIN 0 MIN 0 = BEYOND");
        Script.runOn(ROW, "23: BEYOND: no such HEADING", "dine 0 -1 0 0 = BEYOND", "dine 0 4 0 0 = BEYOND",
            "dine 0 0 0 -1 = BEYOND", "dine 0 0 0 4 = BEYOND", "dine 0 MAX 0 0 = BEYOND", "dine 0 0 0 MIN = BEYOND");
        Script.runOn(ROW, "23: BEYOND is asked ahead of NONE", "dine 0 0 4 0 = BEYOND", "dine 4 0 0 0 = BEYOND",
            "status 3 = 0");
    }

    private static void sees() {
        Script.runOn(ROW, "24: its own, too, where it BUMPS at once", "sees 0 0 = 1", "sees 3 1 = 8");
        Script.runOn(ROW, "24: till it BUMPS", "sees 1 1 = 14", "sees 2 3 = 7");
        Script.runOn(RING, "24: till it is back on itself", "sees 1 1 = 15", "sees 3 3 = 15");
        Script.runOn(LONG, "24: all 16", "sees 0 1 = 65535", "sees 15 1 = 65535", "sees 15 0 = 32768");
        Script.run("24: on over a FIELD where it was with another HEADING", "fields 3", "sides 0-6 4-1 3-10",
            "sees 0 0 = 7", "bumps 0 0 = 3");
        Script.runOn(ROW, "24: BEYOND: no such FIELD", "sees -1 0 = BEYOND", "sees 4 0 = BEYOND", "sees MAX 0 = BEYOND",
            "sees MIN 0 = BEYOND");
        Script.runOn(ROW, "24: BEYOND: no such HEADING", "sees 0 -1 = BEYOND", "sees 0 4 = BEYOND", "sees 1 -3 = BEYOND",
            "sees 0 MAX = BEYOND", "sees 0 MIN = BEYOND");
    }

    private static void twice() {
        Script.runOn(ROW, "25: none is seen twice", "twice 0 = 0", "twice 1 = 0");
        Script.runOn(PILLOW, "25: its own not", "twice 0 = 0");
        Script.runOn(RING, "25: all but its own", "twice 0 = 3", "twice 3 = 3");
        Script.run("25: two WAYS that are the first ones", "fields 2", "sides 0-5 1-6", "twice 0 = 1", "twice 1 = 1");
        Script.run("25: two WAYS that are the last ones", "fields 2", "sides 2-5 3-6", "twice 0 = 1", "twice 1 = 1");
        Script.run("25: three and four times, too", "fields 2", "sides 0-4 1-5 2-6", "twice 0 = 1", "sides 3-7",
            "twice 0 = 1");
        Script.run("25: twice by one WAY alone is once", "fields 2", "sides 0-6 4-5", "sees 0 0 = 3", "twice 0 = 0");
        Script.runOn(LONG, "25: 15 of 16", "sides 60-3", "twice 0 = 15", "twice 15 = 15");
        Script.runOn(ROW, "25: BEYOND", "twice -1 = BEYOND", "twice 4 = BEYOND", "twice MAX = BEYOND", "twice MIN = BEYOND");
    }
}
