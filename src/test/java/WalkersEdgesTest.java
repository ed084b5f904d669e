/** Promises 8 to 19: each sentence that names a boundary case. */
public final class WalkersEdgesTest {
    /** 0, 1 and 2 in a row from south to north; 3 apart. */
    private static final String[] ROW = {"fields 4", "sides 0-6 4-10"};
    /** A ring of 0 and 1 to the north; 2 apart, where one bumps for ever. */
    private static final String[] RING = {"fields 3", "sides 0-6 4-2"};
    /** A ring of 11 (0 to 10) to the east, and a dead end of 6 (0, 11 to 15) to the north. */
    private static final String[] RING_AND_END = {"fields 16", "sides 1-7 5-11 9-15 13-19 17-23 21-27 25-31 29-35 33-39"
        + " 37-43 41-3 0-46 44-50 48-54 52-58 56-62"};

    public static void main(String[] args) {
        walker();
        its();
        place();
        turn();
        as();
        step();
        steps();
        on();
        when();
        back();
        meet();
        spares();
        Due.end();
    }

    private static void walker() {
        Script.run("8: the number, from 0", "fields 1", "walker 0 0 0 = 0", "walker 5 0 3 = 1", "count 1 = 2");
        Script.run("8: the last FIELD and HEADING", "fields 16", "walker 5 15 3 = 0", "its 0 0 = 5", "its 0 1 = 15",
            "its 0 2 = 3", "of 15 2 = 1");
        Script.runOn(RING, "8: MILES and BUMPS are 0 at first, also where one was", "walker 0 0 0", "image", "walker 0 0 0",
            "walker 0 2 0", "steps 9", "undo", "walker 0 0 0 = 1", "its 1 3 = 0", "its 1 4 = 0", "walker 0 0 0 = 2",
            "its 2 3 = 0", "its 2 4 = 0");
        Script.run("8: BEYOND: kind", "fields 1", "walker -1 0 0 = BEYOND", "walker 6 0 0 = BEYOND",
            "walker MAX 0 0 = BEYOND", "walker MIN 0 0 = BEYOND", "count 1 = 0");
        Script.run("8: BEYOND: field", "walker 0 0 0 = BEYOND", "fields 1", "walker 0 -1 0 = BEYOND",
            "walker 0 1 0 = BEYOND", "walker 0 MAX 0 = BEYOND", "walker 0 MIN 0 = BEYOND", "count 1 = 0");
        Script.run("8: BEYOND: heading", "fields 2", "walker 0 0 -1 = BEYOND", "walker 0 0 4 = BEYOND",
            "walker 0 1 -4 = BEYOND", "walker 0 0 MAX = BEYOND", "walker 0 0 MIN = BEYOND", "count 1 = 0");
        Script.run("8: FULL: the 6th is the last", "fields 1", "walker 0 0 0 = 0", "walker 0 0 0 = 1", "walker 0 0 0 = 2",
            "walker 0 0 0 = 3", "walker 0 0 0 = 4", "walker 0 0 0 = 5", "walker 0 0 0 = FULL", "count 1 = 6",
            "its 5 0 = 0", "its 6 0 = BEYOND");
        Script.run("8: BEYOND is asked ahead of FULL", "fields 1", "walker 0 0 0", "walker 0 0 0", "walker 0 0 0",
            "walker 0 0 0", "walker 0 0 0", "walker 0 0 0", "walker 6 0 0 = BEYOND", "walker 0 1 0 = BEYOND",
            "walker 0 0 4 = BEYOND", "status 1 = 0");
    }

    private static void its() {
        Script.runOn(RING, "9: KIND, FIELD, HEADING, MILES, BUMPS, what it PAYS", "rough 2 9", "walker 4 0 0", "steps 3",
            "place 0 2 3", "steps 2", "its 0 0 = 4", "its 0 1 = 2", "its 0 2 = 1", "its 0 3 = 3", "its 0 4 = 2",
            "its 0 5 = 13");
        Script.runOn(RING, "9: PAYS for the FIELD on which it is, as it is now", "walker 4 0 0", "its 0 5 = 1", "rough 0 9",
            "its 0 5 = 13", "rough 1 3", "step 0", "its 0 5 = 5", "its 0 3 = 5");
        Script.runOn(RING, "9: BEYOND: no such WALKER", "its 0 0 = BEYOND", "walker 0 0 0", "its 1 0 = BEYOND",
            "its -1 0 = BEYOND", "its MAX 5 = BEYOND", "its MIN 5 = BEYOND");
        Script.runOn(RING, "9: BEYOND: another what", "walker 0 0 0", "its 0 -1 = BEYOND", "its 0 6 = BEYOND",
            "its 0 MAX = BEYOND", "its 0 MIN = BEYOND");
    }

    private static void place() {
        Script.runOn(ROW, "10: the FIELD and the HEADING that were", "walker 0 3 3", "place 0 0 0 = 15", "place 0 0 0 = 0",
            "place 0 3 1 = 0", "its 0 1 = 3", "its 0 2 = 1", "of 3 2 = 1", "of 0 2 = 0");
        Script.run("10: the last WAY", "fields 16", "walker 0 0 0", "place 0 15 3 = 0", "place 0 15 3 = 63");
        Script.runOn(RING, "10: MILES, BUMPS stay", "walker 0 0 0", "walker 0 2 0", "steps 7", "place 0 2 1 = 4",
            "place 1 0 1 = 10", "its 0 3 = 7", "its 0 4 = 0", "its 1 3 = 0", "its 1 4 = 7");
        Script.runOn(RING, "10: BEYOND: no such WALKER", "place 0 0 0 = BEYOND", "walker 0 0 0", "place 1 0 0 = BEYOND",
            "place -1 0 0 = BEYOND", "place MAX 0 0 = BEYOND", "place MIN 0 0 = BEYOND");
        Script.runOn(RING, "10: BEYOND: no such FIELD", "walker 0 1 2", "place 0 -1 0 = BEYOND", "place 0 3 0 = BEYOND",
            "place 0 MAX 0 = BEYOND", "place 0 MIN 0 = BEYOND", "its 0 1 = 1");
        Script.runOn(RING, "10: BEYOND: no such HEADING", "walker 0 1 2", "place 0 0 -1 = BEYOND", "place 0 0 4 = BEYOND",
            "place 0 2 -4 = BEYOND", "place 0 0 MAX = BEYOND", "place 0 0 MIN = BEYOND", "its 0 2 = 2");
    }

    private static void turn() {
        Script.runOn(RING, "11: what it was", "walker 5 0 0", "turn 0 0 = 5", "turn 0 5 = 0", "turn 0 5 = 5", "its 0 0 = 5");
        Script.runOn(RING, "11: all but the KIND stays", "walker 0 0 0", "walker 0 2 0", "steps 3", "turn 0 3 = 0",
            "turn 1 3 = 0", "its 0 1 = 1", "its 0 2 = 0", "its 0 3 = 3", "its 1 4 = 3", "its 1 2 = 2");
        Script.runOn(RING, "11: BEYOND: no such WALKER", "turn 0 0 = BEYOND", "walker 1 0 0", "turn 1 0 = BEYOND",
            "turn -1 0 = BEYOND", "turn MAX 0 = BEYOND", "turn MIN 0 = BEYOND");
        Script.runOn(RING, "11: BEYOND: no such KIND", "walker 1 0 0", "turn 0 -1 = BEYOND", "turn 0 6 = BEYOND",
            "turn 0 MAX = BEYOND", "turn 0 MIN = BEYOND", "its 0 0 = 1");
    }

    private static void as() {
        // Of each KIND: those that it is, or is under.
        String[] are = {"0", "01", "02", "013", "024", "015"};
        for (int kind = 0; kind < 6; kind++) {
            for (int other = 0; other < 6; other++) {
                boolean is = are[kind].contains(String.valueOf(other));
                Script.runOn(RING, "12: KIND: " + kind + " as " + other, "walker 0 0 0", "steps 4", "turn 0 " + kind,
                    "as 0 " + other + " = " + (is ? "4" : "KIND"));
            }
        }
        Script.runOn(RING, "12: BEYOND: no such one", "as 0 0 = BEYOND", "walker 0 0 0", "as 1 0 = BEYOND",
            "as -1 0 = BEYOND", "as MAX 0 = BEYOND", "as MIN 0 = BEYOND");
        Script.runOn(RING, "12: BEYOND: kind", "walker 0 0 0", "as 0 -1 = BEYOND", "as 0 6 = BEYOND", "as 0 MAX = BEYOND",
            "as 0 MIN = BEYOND");
        Script.runOn(RING, "12: BEYOND is asked ahead of KIND", "walker 0 0 0", "as 1 5 = BEYOND", "as 0 6 = BEYOND",
            "status 2 = 0");
    }

    private static void step() {
        Script.runOn(ROW, "13: of one alone, the FIELD where it is then", "walker 0 0 0", "walker 0 0 0", "step 0 = 1",
            "step 0 = 2", "its 1 1 = 0", "its 1 3 = 0", "its 0 3 = 2");
        Script.runOn(ROW, "13: at a BUMP, the FIELD where it stays", "walker 0 2 0", "step 0 = 2", "its 0 3 = 0",
            "its 0 4 = 1", "its 0 2 = 2", "step 0 = 1");
        Script.runOn(ROW, "13: BEYOND", "step 0 = BEYOND", "walker 0 0 0", "step 1 = BEYOND", "step -1 = BEYOND",
            "step MAX = BEYOND", "step MIN = BEYOND", "its 0 3 = 0");
    }

    private static void steps() {
        Script.runOn(RING, "14: 1 STEP of all", "walker 0 0 0", "walker 0 2 0", "walker 4 1 0", "rough 0 9",
            "steps 1 = 14", "its 0 3 = 1", "its 1 4 = 1", "its 2 3 = 13");
        Script.runOn(RING, "14: 100 STEPS of all", "walker 0 0 0", "walker 0 2 0", "walker 0 1 0", "steps 100 = 200",
            "its 1 4 = 100", "steps 100 = 400");
        Script.runOn(RING, "14: of none", "steps 1 = 0", "steps 100 = 0");
        Script.runOn(RING, "14: BEYOND: below 1", "walker 0 0 0", "steps 0 = BEYOND", "steps -1 = BEYOND",
            "steps MIN = BEYOND", "its 0 3 = 0");
        Script.runOn(RING, "14: BEYOND: above 100", "walker 0 0 0", "steps 101 = BEYOND", "steps MAX = BEYOND",
            "its 0 3 = 0");
        Script.run("14: BEYOND without WALKERS, too", "steps 0 = BEYOND", "steps 101 = BEYOND");
    }

    private static void on() {
        Script.runOn(RING, "15: ON 0 STEPS", "walker 0 1 2", "steps 3", "on 0 0 0 = 0", "on 0 0 1 = 2", "on 0 0 2 = 3",
            "on 0 0 3 = 0");
        Script.runOn(RING, "15: ON 100 STEPS", "walker 0 1 0", "walker 3 2 0", "on 0 100 0 = 1", "on 0 100 1 = 0",
            "on 0 100 2 = 100", "on 0 99 0 = 0", "on 1 100 3 = 100", "on 1 99 1 = 1");
        Script.runOn(RING, "15: nothing changes", "walker 0 0 0", "walker 0 2 0", "on 0 7 2 = 7", "on 1 7 3 = 7",
            "on 0 7 2 = 7", "its 0 1 = 0", "its 0 3 = 0", "its 1 2 = 0", "its 1 4 = 0", "count 4 = 0");
        Script.runOn(RING, "15: BEYOND: no such WALKER", "on 0 0 0 = BEYOND", "walker 0 0 0", "on 1 0 0 = BEYOND",
            "on -1 0 0 = BEYOND", "on MAX 0 0 = BEYOND", "on MIN 0 0 = BEYOND");
        Script.runOn(RING, "15: BEYOND: n", "walker 0 0 0", "on 0 -1 0 = BEYOND", "on 0 101 0 = BEYOND",
            "on 0 MAX 0 = BEYOND", "on 0 MIN 0 = BEYOND");
        Script.runOn(RING, "15: BEYOND: what", "walker 0 0 0", "on 0 1 -1 = BEYOND", "on 0 1 4 = BEYOND",
            "on 0 1 MAX = BEYOND", "on 0 1 MIN = BEYOND");
    }

    private static void when() {
        Script.runOn(ROW, "16: 0 if it is there", "walker 0 1 3", "when 0 1 = 0");
        Script.runOn(ROW, "16: first, though it comes there again", "walker 0 1 0", "when 0 2 = 1", "when 0 0 = 4");
        Script.runOn(ROW, "16: NONE: it never comes there", "walker 0 1 0", "when 0 3 = NONE", "walker 0 3 0",
            "when 1 0 = NONE");
        // A boy found by trying, who comes to field 9 in 101 steps.
        String[] long101 = {"field 9", "field 8", "field 5", "field 9", "field 4", "field 2", "field 2", "field 1", "field 7",
            "field 0", "field 1", "field 6", "field 1", "field 5", "field 3", "field 5", "sides 50-34 47-43 12-1 31-57 19-60"
            + " 51-2 17-29 42-45 63-55 49-53 58-27 15-24 5-6 52-30 46-20 8-25 44-41 54-38 7-56 21-23 59-26 37-39 16-35 40-48"
            + " 18-13 28-36 22-3 4-33 0-32 61-14 11-10 62-9", "walker 3 0 1"};
        Script.runOn(long101, "16: 101 are too many", "when 0 9 = NONE");
        Script.runOn(long101, "16: 100 are not", "step 0", "when 0 9 = 100", "on 0 100 0 = 9", "step 0", "when 0 9 = 99");
        Script.runOn(ROW, "16: nothing changes", "walker 0 1 0", "when 0 0 = 4", "when 0 3 = NONE", "its 0 1 = 1",
            "its 0 3 = 0", "its 0 4 = 0");
        Script.runOn(ROW, "16: BEYOND: no such WALKER", "when 0 0 = BEYOND", "walker 0 0 0", "when 1 0 = BEYOND",
            "when -1 0 = BEYOND", "when MAX 0 = BEYOND", "when MIN 0 = BEYOND");
        Script.runOn(ROW, "16: BEYOND: no such FIELD", "walker 0 0 0", "when 0 -1 = BEYOND", "when 0 4 = BEYOND",
            "when 0 MAX = BEYOND", "when 0 MIN = BEYOND");
    }

    private static void back() {
        Script.run("17: in 1, not in 0", "fields 1", "sides 0-2", "walker 0 0 0", "back 0 = 1");
        Script.runOn(ROW, "17: the FIELD and the HEADING", "walker 0 1 0", "back 0 = 6", "walker 0 0 1", "back 1 = 2",
            "walker 1 3 0", "back 2 = 4", "walker 4 3 0", "back 3 = 4", "walker 5 3 0", "back 4 = 2");
        // Found by trying; no way of a boy on 16 fields is longer than 190.
        Script.run("17: in 188", "field 8", "field 5", "field 3", "field 9", "field 9", "field 9", "field 6", "field 0",
            "field 6", "field 9", "field 0", "field 8", "field 9", "field 8", "field 9", "field 8", "sides 47-0 39-36 50-27"
            + " 8-32 13-48 61-33 15-60 25-26 58-62 19-56 1-43 35-57 29-28 3-34 54-6 5-45 4-11 20-16 52-18 7-55 30-40 9-63"
            + " 51-38 22-44 53-42 37-59 24-2 46-14 41-31 17-21 23-49 12-10", "walker 3 7 1", "back 0 = 188", "steps 88",
            "on 0 100 0 = 7", "on 0 100 1 = 1");
        Script.runOn(RING, "17: NONE", "walker 1 0 1", "back 0 = NONE", "its 0 2 = 1", "its 0 4 = 0");
        Script.runOn(RING, "17: the WAY on which it is now", "walker 1 0 1", "back 0 = NONE", "step 0", "back 0 = 2");
        Script.runOn(RING, "17: nothing changes", "walker 0 0 0", "back 0 = 2", "its 0 3 = 0");
        Script.runOn(RING, "17: BEYOND", "back 0 = BEYOND", "walker 0 0 0", "back 1 = BEYOND", "back -1 = BEYOND",
            "back MAX = BEYOND", "back MIN = BEYOND");
    }

    private static void meet() {
        Script.runOn(ROW, "18: 0 if both are there", "walker 0 1 0", "walker 5 1 3", "meet 0 1 = 0", "meet 1 0 = 0");
        Script.runOn(ROW, "18: both go at once, so that they may pass each other", "walker 0 0 0", "walker 0 1 2",
            "meet 0 1 = NONE", "meet 1 0 = NONE");
        Script.runOn(ROW, "18: a BUMP is a STEP, too", "walker 0 0 1", "walker 0 2 0", "meet 0 1 = 3", "meet 1 0 = 3");
        Script.runOn(RING_AND_END, "18: 100", "walker 0 10 1", "walker 0 13 2", "meet 0 1 = 100", "meet 1 0 = 100");
        Script.runOn(RING_AND_END, "18: NONE: 101 are too many", "walker 0 9 1", "walker 0 14 2", "meet 0 1 = NONE",
            "meet 1 0 = NONE", "steps 1", "meet 0 1 = 100");
        Script.runOn(ROW, "18: NONE", "walker 0 0 0", "walker 0 3 0", "meet 0 1 = NONE");
        Script.runOn(ROW, "18: nothing changes", "walker 0 0 0", "walker 0 2 2", "meet 0 1 = 1", "its 0 1 = 0",
            "its 1 1 = 2", "count 4 = 0");
        Script.runOn(ROW, "18: BEYOND: no such WALKER", "meet 0 1 = BEYOND", "walker 0 0 0", "meet 0 1 = BEYOND",
            "meet 1 0 = BEYOND", "meet -1 0 = BEYOND", "meet 0 -1 = BEYOND", "meet 0 MAX = BEYOND", "meet MIN 0 = BEYOND");
        Script.runOn(ROW, "18: BEYOND: one and the same", "walker 0 0 0", "walker 0 0 0", "meet 0 0 = BEYOND",
            "meet 1 1 = BEYOND", "meet 0 1 = 0");
    }

    private static void spares() {
        Script.runOn(RING, "19: ON 0 STEPS", "walker 0 0 0", "walker 0 2 0", "steps 3", "spares 0 = 1");
        Script.runOn(RING, "19: ON 100 STEPS", "walker 0 2 0", "walker 0 0 0", "steps 99", "place 0 0 0", "place 1 2 0",
            "spares 98 = 0", "spares 99 = 0", "spares 100 = 1");
        Script.runOn(RING, "19: of several the least", "walker 0 0 0", "walker 0 2 0", "walker 0 2 0", "spares 0 = 0",
            "spares 1 = 1", "place 0 2 0", "spares 1 = 0");
        Script.runOn(RING, "19: the last of six", "walker 0 0 0", "walker 0 0 0", "walker 0 0 0", "walker 0 0 0",
            "walker 0 0 0", "walker 0 2 0", "spares 1 = 5");
        Script.runOn(RING, "19: nothing changes", "walker 0 0 0", "walker 0 2 0", "spares 9 = 1", "count 4 = 0",
            "its 1 4 = 0");
        Script.runOn(RING, "19: BEYOND", "walker 0 0 0", "spares -1 = BEYOND", "spares 101 = BEYOND", "spares MAX = BEYOND",
            "spares MIN = BEYOND");
        Script.runOn(RING, "19: NONE: there are none", "spares 0 = NONE", "spares 100 = NONE");
        Script.runOn(RING, "19: BEYOND is asked ahead of NONE", "spares -1 = BEYOND", "spares 101 = BEYOND", "status 3 = 0");
    }
}
