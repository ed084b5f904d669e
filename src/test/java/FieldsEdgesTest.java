/** Promises 1 to 7: each sentence that names a boundary case. */
public final class FieldsEdgesTest {
    /** Two fields; north of 0 is glued to south of 1, east of 1 to its west. */
    private static final String[] TWO = {"field 3", "field 0", "sides 0-6 5-7"};

    public static void main(String[] args) {
        newObject();
        field();
        of();
        rough();
        glue();
        cut();
        over();
        Due.end();
    }

    private static void newObject() {
        Script.run("1: no FIELDS", "count 0 = 0", "count 3 = 0", "of 0 0 = BEYOND", "over 0 0 = BEYOND", "parts = 0",
            "corners = 0", "excess = 0", "bent = 0", "far 0 0 = BEYOND");
        Script.run("1: no WALKERS", "count 1 = 0", "count 4 = 0", "its 0 0 = BEYOND", "step 0 = BEYOND", "steps 100 = 0",
            "spares 0 = NONE");
        Script.run("1: THE TAPE is empty", "count 2 = 0", "wipe = 0", "plain = -1");
        Script.run("1: no image is kept", "tear = 0", "undo = NONE");
        Script.run("1: no act has answered a finding", "status -1 = 0", "status 0 = 0", "status 1 = 0", "status 2 = 0",
            "status 3 = 0", "status 4 = 0", "status 5 = 0", "status 6 = 0");
    }

    private static void field() {
        Script.run("2: its number, from 0", "field 0 = 0", "field 0 = 1", "field 0 = 2");
        Script.run("2: its ROUGH, from 0 to 9", "field 0 = 0", "of 0 0 = 0", "field 9 = 1", "of 1 0 = 9", "field 1 = 2",
            "of 2 0 = 1");
        Script.run("2: BEYOND: rough below 0", "field -1 = BEYOND", "field MIN = BEYOND", "count 0 = 0");
        Script.run("2: BEYOND: rough above 9", "field 10 = BEYOND", "field MAX = BEYOND", "field 256 = BEYOND",
            "count 0 = 0");
        Script.run("2: FULL: the 16th is the last", "fields 15 = 14", "field 9 = 15", "field 0 = FULL", "field 9 = FULL",
            "count 0 = 16", "of 15 0 = 9", "of 16 0 = BEYOND");
        Script.run("2: BEYOND is asked ahead of FULL", "fields 16", "field -1 = BEYOND", "field 10 = BEYOND",
            "status 0 = 2", "status 1 = 0");
        Script.run("2: a number is free again with undo", "fields 15", "image = 1", "field 7 = 15", "field 7 = FULL",
            "undo = 15", "field 0 = 15", "of 15 0 = 0", "of 15 1 = 0");
    }

    private static void of() {
        Script.runOn(TWO, "3: ROUGH", "of 0 0 = 3", "of 1 0 = 0");
        Script.runOn(TWO, "3: SIDES that are GLUED, as a set", "of 0 1 = 1", "of 1 1 = 14");
        Script.runOn(TWO, "3: none, and all SIDES", "field 0", "of 2 1 = 0", "sides 8-9 10-11", "of 2 1 = 15");
        Script.runOn(TWO, "3: WALKERS on it, as a set, none and all", "of 1 2 = 0", "walker 0 1 0", "walker 0 1 0",
            "walker 0 1 0", "walker 0 1 0", "walker 0 1 0", "of 0 2 = 0", "walker 0 1 0", "of 1 2 = 63", "place 0 0 0",
            "of 1 2 = 62", "of 0 2 = 1", "place 5 0 0", "of 0 2 = 33");
        Script.runOn(TWO, "3: BEYOND: no such FIELD", "of -1 0 = BEYOND", "of 2 0 = BEYOND", "of 2 1 = BEYOND",
            "of 2 2 = BEYOND", "of MAX 0 = BEYOND", "of MIN 0 = BEYOND");
        Script.runOn(TWO, "3: BEYOND: another what", "of 0 -1 = BEYOND", "of 0 3 = BEYOND", "of 0 MAX = BEYOND",
            "of 0 MIN = BEYOND");
    }

    private static void rough() {
        Script.runOn(TWO, "4: what it was", "rough 0 9 = 3", "rough 0 0 = 9", "rough 0 0 = 0", "of 0 0 = 0");
        Script.runOn(TWO, "4: of this FIELD alone", "rough 1 9 = 0", "of 0 0 = 3", "of 1 0 = 9");
        Script.runOn(TWO, "4: BEYOND: no such FIELD", "rough -1 1 = BEYOND", "rough 2 1 = BEYOND", "rough MAX 1 = BEYOND",
            "rough MIN 1 = BEYOND");
        Script.runOn(TWO, "4: BEYOND: v below 0 or above 9", "rough 0 -1 = BEYOND", "rough 0 10 = BEYOND",
            "rough 0 MAX = BEYOND", "rough 0 MIN = BEYOND", "of 0 0 = 3");
    }

    private static void glue() {
        Script.run("5: two SIDES of two FIELDS: both to each other", "fields 2", "glue 0 0 1 3 = 1", "over 0 0 = 7",
            "over 1 3 = 0", "count 3 = 2");
        Script.run("5: two SIDES of one FIELD", "fields 1", "glue 0 3 0 0 = 1", "over 0 3 = 0", "over 0 0 = 3");
        Script.run("5: the last SIDE of the last FIELD", "fields 16", "glue 15 3 0 0 = 1", "over 0 0 = 63",
            "over 15 3 = 0");
        Script.run("5: all SIDES of a full plain", "fields 16", "sides 0-63 1-62 2-61 3-60 4-59 5-58 6-57 7-56 8-55 9-54"
            + " 10-53 11-52 12-51 13-50 14-49 15-48 16-47 17-46 18-45 19-44 20-43 21-42 22-41 23-40 24-39 25-38 26-37 27-36"
            + " 28-35 29-34 30-33 31-32", "count 3 = 64", "of 0 1 = 15", "of 15 1 = 15", "over 8 0 = 31");
        Script.run("5: BEYOND: no such FIELD", "glue 0 0 0 1 = BEYOND", "fields 2", "glue -1 0 1 0 = BEYOND",
            "glue 2 0 1 0 = BEYOND", "glue 0 0 -1 0 = BEYOND", "glue 0 0 2 0 = BEYOND", "glue MAX 0 1 0 = BEYOND",
            "glue 0 0 MIN 0 = BEYOND", "glue 1073741824 0 0 1 = BEYOND", "count 3 = 0");
        Script.run("5: BEYOND: no such SIDE", "fields 2", "glue 0 -1 1 0 = BEYOND", "glue 0 4 1 0 = BEYOND",
            "glue 0 0 1 -1 = BEYOND", "glue 0 0 1 4 = BEYOND", "glue 1 -4 0 1 = BEYOND", "glue 0 MAX 1 0 = BEYOND",
            "glue 0 0 1 MIN = BEYOND", "count 3 = 0");
        Script.run("5: BEYOND: one and the same", "fields 2", "glue 0 0 0 0 = BEYOND", "glue 1 3 1 3 = BEYOND",
            "glue 0 3 1 3 = 1");
        Script.run("5: STATE: the first is GLUED", "fields 3", "glue 0 0 1 0 = 1", "glue 0 0 2 0 = STATE",
            "glue 1 0 2 0 = STATE", "over 0 0 = 4", "of 2 1 = 0");
        Script.run("5: STATE: the second is GLUED", "fields 3", "glue 0 0 1 0 = 1", "glue 2 0 0 0 = STATE",
            "glue 2 0 1 0 = STATE", "over 1 0 = 0", "of 2 1 = 0");
        Script.run("5: STATE: both are, to each other", "fields 2", "glue 0 0 1 0 = 1", "glue 0 0 1 0 = STATE",
            "glue 1 0 0 0 = STATE", "count 3 = 2");
        Script.run("5: BEYOND is asked ahead of STATE", "fields 2", "glue 0 0 1 0 = 1", "glue 0 0 0 0 = BEYOND",
            "glue 0 0 2 0 = BEYOND", "glue 2 0 0 0 = BEYOND", "glue 0 0 1 4 = BEYOND", "glue 0 -1 1 0 = BEYOND",
            "status 4 = 0");
    }

    private static void cut() {
        Script.runOn(TWO, "6: to which it was", "cut 0 0 = 6", "of 0 1 = 0", "of 1 1 = 10");
        Script.runOn(TWO, "6: nor the other one", "cut 1 2 = 0", "over 0 0 = NONE", "over 1 2 = NONE", "count 3 = 2");
        Script.runOn(TWO, "6: of its own FIELD", "cut 1 1 = 7", "over 1 3 = NONE", "over 1 1 = NONE", "count 3 = 2");
        Script.run("6: the last SIDE of the last FIELD", "fields 16", "sides 63-62 0-61", "cut 15 2 = 63", "cut 0 0 = 61",
            "count 3 = 0");
        Script.runOn(TWO, "6: and may be GLUED again", "cut 0 0 = 6", "glue 1 2 0 3 = 1", "over 0 3 = 6",
            "over 0 0 = NONE");
        Script.runOn(TWO, "6: BEYOND: no such FIELD", "cut -1 0 = BEYOND", "cut 2 0 = BEYOND", "cut MAX 0 = BEYOND",
            "cut MIN 0 = BEYOND");
        Script.runOn(TWO, "6: BEYOND: no such SIDE", "cut 0 -1 = BEYOND", "cut 0 4 = BEYOND", "cut 0 6 = BEYOND",
            "cut 1 -4 = BEYOND", "cut 0 MAX = BEYOND", "cut 0 MIN = BEYOND", "count 3 = 4");
        Script.runOn(TWO, "6: STATE: it isn't", "cut 0 1 = STATE", "cut 0 2 = STATE", "cut 1 0 = STATE");
        Script.runOn(TWO, "6: STATE: it isn't any more", "cut 0 0 = 6", "cut 0 0 = STATE", "cut 1 2 = STATE");
    }

    private static void over() {
        Script.runOn(TWO, "7: to which it is GLUED", "over 0 0 = 6", "over 1 2 = 0", "over 1 1 = 7", "over 1 3 = 5");
        Script.run("7: the last SIDE of the last FIELD", "fields 16", "sides 0-63", "over 0 0 = 63", "over 15 3 = 0");
        Script.runOn(TWO, "7: BEYOND: no such FIELD", "over -1 0 = BEYOND", "over 2 0 = BEYOND", "over MAX 0 = BEYOND",
            "over MIN 0 = BEYOND");
        Script.runOn(TWO, "7: BEYOND: no such SIDE", "over 0 -1 = BEYOND", "over 0 4 = BEYOND", "over 1 -4 = BEYOND",
            "over 0 MAX = BEYOND", "over 0 MIN = BEYOND");
        Script.runOn(TWO, "7: NONE", "over 0 1 = NONE", "over 0 3 = NONE", "over 1 0 = NONE", "status 3 = 3");
    }
}
