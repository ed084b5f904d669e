/** "Terms": each sentence that names a boundary case (THE TEXT has a test of its own). */
public final class TermsEdgesTest {
    private static final String[] SIX = {"walker 0 0 0", "walker 0 0 0", "walker 0 0 0", "walker 0 0 0", "walker 0 0 0",
        "walker 0 0 0"};

    public static void main(String[] args) {
        findings();
        findingsInLongs();
        orderOfFindings();
        quotients();
        sets();
        fields();
        glued();
        goesOn();
        walkers();
        pays();
        turnsOnComing();
        turnsAtBump();
        onChangesNothing();
        abouts();
        sheets();
        Due.end();
    }

    private static void findings() {
        Script.run("FINDINGS: BEYOND", "field -1 = -1000000001", "status 0 = 1", "status -1 = 1");
        Script.run("FINDINGS: FULL", "fields 16", "field 0 = -1000000002", "status 1 = 1", "status -1 = 1");
        Script.run("FINDINGS: KIND", "fields 1", "walker 0 0 0", "as 0 1 = -1000000003", "status 2 = 1", "status -1 = 1");
        Script.run("FINDINGS: NONE", "undo = -1000000004", "status 3 = 1", "status -1 = 1");
        Script.run("FINDINGS: STATE", "fields 1", "cut 0 0 = -1000000005", "status 4 = 1", "status -1 = 1");
        Script.run("FINDINGS: MISSING", "lays 0 = -1000000006", "status 5 = 1", "status -1 = 1");
        Script.run("FINDINGS: SIZE", "sheet 0 8 -1 = -1000000007", "status 6 = 1", "status -1 = 1");
    }

    private static void findingsInLongs() {
        BentPlain x = new BentPlain();
        Due.holds("in longs, too: BEYOND", x.write(4, 0, 0) == -1000000001L);
        Due.holds("in longs, too: MISSING", x.write(0, 0, 0) == -1000000006L);
        Due.is("and counted", x.status(-1), 2);
        Script.run("a number that looks like a finding is none", "sheet 0 64 1", "write 0 0 -1000000006 = 0",
            "write 0 0 -9223372036854775808 = -1000000006", "write 0 0 0 = -9223372036854775808", "status -1 = 0");
        Script.run("nor is a FAULT, or an excess below 0", "text house = -1", "plain = -1", "fields 2",
            "sides 0-6 4-2 1-7 5-3", "excess = 0", "cut 0 0", "cut 1 0", "sides 0-2 4-6", "excess = 0", "status -1 = 0");
    }

    /** Two findings at once: the one that is asked first is told. The promises' own tests have the others. */
    private static void orderOfFindings() {
        Script.run("BEYOND ahead of FULL", "fields 16", "field 10 = BEYOND", "field 9 = FULL");
        Script.runOn(new String[] {"fields 1", SIX[0], SIX[1], SIX[2], SIX[3], SIX[4], SIX[5]}, "BEYOND ahead of FULL",
            "walker 0 0 4 = BEYOND", "walker 0 0 3 = FULL");
        Script.run("SIZE between BEYOND and BEYOND", "sheet 4 8 -1 = BEYOND", "sheet 0 9 -1 = BEYOND",
            "sheet 0 8 -1 = SIZE", "sheet 0 8 41 = BEYOND");
        Script.run("MISSING between BEYOND and BEYOND", "write 4 -1 0 = BEYOND", "write 0 -1 0 = MISSING", "sheet 0 8 1",
            "write 0 -1 0 = BEYOND");
        Script.run("BEYOND, MISSING, KIND, BEYOND", "sheet 0 8 1", "sheet 1 16 1", "copy 2 -1 4 -1 -1 = BEYOND",
            "copy 2 -1 0 -1 -1 = MISSING", "copy 0 -1 1 -1 -1 = KIND", "copy 0 -1 0 -1 -1 = BEYOND");
    }

    private static void quotients() {
        // A soldier pays 1 and a third of ROUGH, cut.
        int[] thirds = {0, 0, 0, 1, 1, 1, 2, 2, 2, 3};
        for (int r = 0; r <= 9; r++) {
            Script.run("quotients are cut: a third of " + r, "field " + r, "walker 2 0 0", "its 0 5 = " + (1 + thirds[r]));
        }
    }

    private static void sets() {
        Script.run("sets are told by bits: SIDES", "fields 2", "sides 0-7", "of 0 1 = 1", "of 1 1 = 8", "sides 5-6",
            "of 1 1 = 14");
        Script.run("sets are told by bits: the first and the last FIELD", "fields 16", "sides 0-62", "sees 0 0 = 32769",
            "sees 15 1 = 32768", "sees 0 1 = 1");
        Script.run("sets are told by bits: no FIELD and the last", "fields 16", "bent = 0", "sides 60-61", "bent = 32768");
        Script.run("sets are told by bits: the first and the last WALKER", "fields 2", "walker 0 0 0", "walker 0 1 0",
            "walker 0 1 0", "walker 0 1 0", "walker 0 1 0", "walker 0 0 0", "of 0 2 = 33", "of 1 2 = 30");
    }

    private static void fields() {
        Script.run("at most 16 FIELDS", "fields 16 = 15", "field 0 = FULL", "text field = -1", "count 0 = 16");
        Script.run("ROUGH 0 at first", "text field = 1", "of 0 0 = 0");
        Script.run("ROUGH 0 at first, also where another one was", "image", "field 9 = 0", "undo = 0", "text field = 1",
            "of 0 0 = 0");
        Script.run("ROUGH 0 at first, also behind a FAULT", "text field rough 9;! = -15", "text field = 1", "of 0 0 = 0");
        Script.run("SIDES are not GLUED at first", "field 0", "of 0 1 = 0", "over 0 0 = NONE", "over 0 1 = NONE",
            "over 0 2 = NONE", "over 0 3 = NONE");
        Script.run("SIDES are not GLUED at first, also where others were", "field 0", "image", "field 0", "sides 4-6 5-7",
            "undo = 1", "field 0 = 1", "of 1 1 = 0", "glue 1 0 1 1 = 1");
        Script.run("SIDES are not GLUED at first, also behind a FAULT",
            "text field;glue 0 north 0 south;glue 0 east 0 west;! = -47", "text field = 1", "of 0 1 = 0");
    }

    private static void glued() {
        Script.run("each SIDE to one at most", "fields 2", "glue 0 0 1 0 = 1", "glue 0 0 1 1 = STATE",
            "glue 1 0 1 1 = STATE", "over 0 0 = 4", "over 1 1 = NONE");
        Script.run("not to itself", "fields 1", "glue 0 2 0 2 = BEYOND", "of 0 1 = 0");
    }

    /** The HEADING opposite to the SIDE by which one comes, from each SIDE over each. */
    private static void goesOn() {
        int[] opposite = {2, 3, 0, 1};
        for (int side = 0; side < 4; side++) {
            for (int its = 0; its < 4; its++) {
                Script.run("s and 2, round: over " + side + " by " + its, "fields 2", "glue 0 " + side + " 1 " + its,
                    "walker 0 0 " + side, "step 0 = 1", "its 0 2 = " + opposite[its], "its 0 3 = 1", "its 0 4 = 0");
            }
            Script.run("not GLUED: it BUMPS at " + side, "fields 2", "walker 0 0 " + side, "step 0 = 0", "its 0 3 = 0",
                "its 0 4 = 1", "bumps 0 " + side + " = 0");
        }
    }

    private static void walkers() {
        Script.run("at most 6 WALKERS", "fields 1", "walker 0 0 0", "walker 0 0 0", "walker 0 0 0", "walker 0 0 0",
            "walker 0 0 0", "walker 0 0 0 = 5", "walker 0 0 0 = FULL", "text walker at 0 north = -1", "count 1 = 6");
        Script.run("MILES and BUMPS 0 at first", "fields 1", "walker 3 0 0", "its 0 3 = 0", "its 0 4 = 0");
        Script.run("MILES and BUMPS 0 at first, also told by a text where one was", "fields 2", "sides 0-2", "image",
            "walker 0 0 0", "walker 0 1 0", "steps 8", "undo = 2", "text boy at 0 north;cat at 1 west = 2", "its 0 3 = 0",
            "its 0 4 = 0", "its 1 3 = 0", "its 1 4 = 0");
        Script.run("steps of all: one of each", "fields 1", "walker 0 0 0", "walker 1 0 0", "steps 1", "its 0 4 = 1",
            "its 1 4 = 1", "its 0 2 = 2", "its 1 2 = 3");
    }

    /** What each KIND PAYS for each ROUGH to which it comes. */
    private static void pays() {
        int[][] due = {{1, 1, 1, 1, 1, 1, 1, 1, 1, 1}, {1, 1, 1, 1, 1, 1, 1, 1, 1, 1}, {1, 1, 1, 2, 2, 2, 3, 3, 3, 4},
            {1, 1, 1, 1, 1, 1, 1, 1, 1, 2}, {1, 2, 3, 5, 6, 7, 9, 10, 11, 13}, {1, 1, 1, 1, 1, 1, 1, 1, 1, 1}};
        for (int kind = 0; kind < 6; kind++) {
            for (int r = 0; r <= 9; r++) {
                Script.run("PAYS: kind " + kind + ", ROUGH " + r, "field 4", "field " + r, "sides 0-6",
                    "walker " + kind + " 0 0", "step 0 = 1", "its 0 3 = " + due[kind][r], "its 0 5 = " + due[kind][r]);
            }
        }
    }

    /** A field glued to itself in all directions: what changes is the HEADING alone. */
    private static void turnsOnComing() {
        String[] self = {"field 0", "sides 0-2 1-3"};
        for (int heading = 0; heading < 4; heading++) {
            for (int r = 0; r <= 9; r++) {
                int right = r >= 5 ? (heading + 1) % 4 : heading;
                String rough = "rough 0 " + r;
                Script.runOn(self, "TURNS: WALKER, ROUGH " + r, rough, "walker 0 0 " + heading, "step 0",
                    "its 0 2 = " + heading);
                Script.runOn(self, "TURNS: SURVEYOR, ROUGH " + r, rough, "walker 1 0 " + heading, "step 0",
                    "its 0 2 = " + heading);
                Script.runOn(self, "TURNS: SOLDIER, ROUGH " + r, rough, "walker 2 0 " + heading, "step 0",
                    "its 0 2 = " + right);
                Script.runOn(self, "TURNS: CARTER, ROUGH " + r, rough, "walker 4 0 " + heading, "step 0",
                    "its 0 2 = " + right);
            }
        }
        for (int h = 0; h < 4; h++) {
            String left = " = " + (h + 3) % 4;
            Script.runOn(self, "TURNS: BOY: MILES a multiple of 3, as they are then", "walker 3 0 " + h, "on 0 1 1 = " + h,
                "on 0 2 1 = " + h, "on 0 3 1" + left, "on 0 5 1" + left, "on 0 6 1 = " + (h + 2) % 4,
                "on 0 12 1 = " + h, "on 0 11 1 = " + (h + 1) % 4);
            Script.runOn(self, "TURNS: BOY: by MILES, not by STEPS", "rough 0 9", "walker 3 0 " + h, "on 0 1 1 = " + h,
                "on 0 2 1 = " + h, "on 0 3 2 = 6", "on 0 3 1" + left);
            Script.runOn(self, "TURNS: CAT: 1 if MILES are odd", "walker 5 0 " + h, "on 0 1 1 = " + (h + 1) % 4,
                "on 0 2 1 = " + (h + 1) % 4, "on 0 3 1 = " + (h + 2) % 4, "on 0 7 1 = " + h, "on 0 8 1 = " + h);
        }
        Script.run("TURNS: by ROUGH of the FIELD to which it comes", "field 9", "field 0", "sides 0-6 4-2",
            "walker 2 0 0", "step 0 = 1", "its 0 2 = 0", "step 0 = 0", "its 0 2 = 1");
    }

    /** What each KIND does at a BUMP, from each HEADING. */
    private static void turnsAtBump() {
        int[] quarters = {2, 3, 2, 3, 5, 6};
        for (int kind = 0; kind < 6; kind++) {
            for (int h = 0; h < 4; h++) {
                int once = (h + quarters[kind]) % 4;
                int again = (once + quarters[kind]) % 4;
                Script.run("TURNS AT A BUMP: kind " + kind + ", HEADING " + h, "field 9", "walker " + kind + " 0 " + h,
                    "step 0 = 0", "its 0 2 = " + once, "its 0 4 = 1", "its 0 3 = 0", "step 0 = 0", "its 0 2 = " + again,
                    "its 0 4 = 2", "its 0 3 = 0");
            }
        }
        Script.run("a BUMP turns by TURNS AT A BUMP alone", "field 9", "sides 0-2", "walker 3 0 0", "walker 2 0 1",
            "steps 3", "its 1 2 = 3", "its 1 4 = 3", "its 0 3 = 6", "its 0 2 = 3", "step 0", "its 0 2 = 2");
    }

    private static void onChangesNothing() {
        Script.run("ON: nothing changes", "fields 3", "sides 0-6 4-10", "walker 3 0 0", "walker 4 2 1", "sheet 0 8 9",
            "on 0 50 0", "when 1 0", "back 0", "meet 0 1", "spares 50", "book 0 1", "read 0 1", "its 0 1 = 0",
            "its 0 2 = 0", "its 0 3 = 0", "its 0 4 = 0", "its 1 1 = 2", "its 1 2 = 1", "its 1 3 = 0", "its 1 4 = 0");
    }

    private static void abouts() {
        for (int c = 0; c < 4; c++) {
            for (int by = 0; by < 4; by++) {
                int less = (by + 3) % 4;
                Script.run("s less 1, round: over " + c + " by " + by, "fields 2", "glue 0 " + c + " 1 " + by,
                    "glue 1 " + less + " 0 " + (c + 1) % 4, "about 0 " + c + " = 2", "about 1 " + less + " = 2",
                    "about 0 " + (c + 1) % 4 + " = NONE", "about 1 " + by + " = NONE", "corners = 1");
            }
        }
        Script.run("CORNER 3, between SIDES 3 and 0", "fields 1", "sides 3-0", "about 0 3 = 1", "about 0 0 = NONE",
            "about 0 1 = NONE", "about 0 2 = NONE", "corners = 1");
        Script.run("OPEN by the SIDE over which one goes first", "fields 2", "sides 1-4", "about 0 0 = NONE");
        Script.run("OPEN by a SIDE further on", "fields 2", "sides 0-5", "about 0 0 = NONE");
        Script.run("not OPEN", "fields 2", "sides 0-5 1-4", "about 0 0 = 2", "about 1 0 = 2");
    }

    private static void sheets() {
        Script.run("SHEETS 0 to 3", "sheet 0 8 1 = 1", "sheet 3 8 1 = 1", "sheet -1 8 1 = BEYOND", "sheet 4 8 1 = BEYOND");
        Script.run("MISSING at first", "lays 0 = MISSING", "lays 1 = MISSING", "lays 2 = MISSING", "lays 3 = MISSING");
        Script.run("at most 40 numbers", "sheet 0 8 40 = 40", "write 0 39 1 = 0", "write 0 40 1 = BEYOND",
            "sheet 0 8 41 = BEYOND", "write 0 39 2 = 1");
        Script.run("of 8, 16 or 64 bits", "sheet 0 8 1 = 1", "sheet 1 16 1 = 1", "sheet 2 64 1 = 1",
            "sheet 3 32 1 = BEYOND", "lays 3 = MISSING");
    }
}
