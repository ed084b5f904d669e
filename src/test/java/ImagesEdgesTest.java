/** Promises 45 to 49: each sentence that names a boundary case. */
public final class ImagesEdgesTest {
    public static void main(String[] args) {
        image();
        undo();
        tear();
        count();
        status();
        Due.end();
    }

    private static void image() {
        Script.run("45: of nothing", "image = 1", "fields 2", "undo = 0", "count 0 = 0", "count 1 = 0");
        Script.run("45: of a full plain", "fields 16", "sides 63-0 60-1", "walker 0 15 3", "walker 1 0 0", "walker 2 0 0",
            "walker 3 0 0", "walker 4 0 0", "walker 5 15 0", "image = 1", "cut 15 3", "rough 15 9", "place 5 3 2", "steps 9",
            "undo = 16", "over 15 3 = 0", "of 15 0 = 0", "its 5 0 = 5", "its 5 1 = 15", "its 5 2 = 0", "its 5 4 = 0",
            "count 1 = 6", "count 3 = 4", "count 4 = 0", "field 0 = FULL", "walker 0 0 0 = FULL");
        Script.run("45: THE TAPE not", "tape field", "image = 1", "tape ;field = 11", "undo = 0", "count 2 = 11", "plain = 2");
        Script.run("45: THE TAPE not, empty", "tape field", "image = 1", "wipe = 5", "undo = 0", "count 2 = 0", "plain = -1");
        Script.run("45: sheets not", "sheet 0 8 1", "write 0 0 7", "image = 1", "write 0 0 8", "sheet 1 8 1", "undo = 0",
            "write 0 0 9 = 8", "write 1 0 0 = 0");
        Script.run("45: each field of it: ROUGH, GLUED, KIND, WAY, MILES, BUMPS", "field 3", "field 0", "sides 0-6",
            "walker 3 0 0", "steps 3", "image = 1", "its 0 3 = 1", "its 0 4 = 2", "rough 0 9", "cut 0 0", "sides 0-1",
            "turn 0 4", "place 0 0 3", "steps 5", "undo = 2", "of 0 0 = 3", "over 0 0 = 6", "over 0 1 = NONE", "its 0 0 = 3",
            "its 0 1 = 1", "its 0 2 = 2", "its 0 3 = 1", "its 0 4 = 2");
    }

    private static void undo() {
        Script.run("46: NONE: nothing is kept", "undo = NONE", "fields 3", "undo = NONE", "count 0 = 3");
        Script.run("46: what was kept latest", "image", "fields 1", "image", "fields 1", "image = 1", "fields 1", "undo = 2");
        Script.run("46: which stays", "fields 2", "image", "fields 1", "undo = 2", "rough 0 5", "undo = 2", "of 0 0 = 0",
            "fields 3", "undo = 2", "count 0 = 2");
        Script.run("46: and is not what there is from then on", "fields 1", "sides 0-1", "walker 0 0 2", "image", "undo = 1",
            "cut 0 0", "rough 0 4", "steps 4", "turn 0 1", "undo = 1", "of 0 0 = 0", "of 0 1 = 3", "its 0 0 = 0", "its 0 4 = 0");
        Script.run("46: how many FIELDS: 0 and 16", "image", "fields 16", "undo = 0", "fields 16", "image", "undo = 16");
        Script.run("46: one that was kept by a FAULT's time stays", "fields 1", "image", "fields 1", "text field;! = -7",
            "undo = 1", "count 0 = 1");
    }

    private static void tear() {
        Script.run("47: nothing was kept", "tear = 0", "tear = 0", "status -1 = 0");
        Script.run("47: something was", "image", "tear = 1", "tear = 0", "undo = NONE");
        Script.run("47: two were", "image", "image", "tear = 1", "tear = 0", "undo = NONE");
        Script.run("47: what there is stays", "fields 2", "image", "fields 1", "tear = 1", "count 0 = 3");
        Script.run("47: and anew", "fields 2", "image", "tear = 1", "fields 1", "image = 1", "fields 1", "undo = 3", "tear = 1");
    }

    private static void count() {
        Script.run("48: nothing", "count 0 = 0", "count 1 = 0", "count 2 = 0", "count 3 = 0", "count 4 = 0");
        Script.run("48: FIELDS: 16", "fields 16", "count 0 = 16");
        Script.run("48: WALKERS: 6", "fields 1", "walker 0 0 0", "walker 0 0 0", "walker 0 0 0", "walker 0 0 0", "walker 0 0 0",
            "walker 0 0 0", "count 1 = 6");
        Script.run("48: bytes: 120", "tape " + " ".repeat(120), "count 2 = 120");
        Script.run("48: SIDES, not glues", "fields 16", "sides 0-63", "count 3 = 2", "sides 62-61", "count 3 = 4", "cut 0 0",
            "count 3 = 2");
        Script.run("48: MILES of all together", "field 9", "sides 0-2 1-3", "walker 0 0 0", "walker 4 0 0", "walker 3 0 0",
            "steps 100", "count 4 = 1600", "its 1 3 = 1300");
        Script.run("48: BEYOND: another what", "count -1 = BEYOND", "count 5 = BEYOND", "count MAX = BEYOND",
            "count MIN = BEYOND");
    }

    private static void status() {
        Script.run("49: none", "status -1 = 0", "status 0 = 0", "status 6 = 0");
        Script.run("49: BEYOND to SIZE, and all", "fields 16", "walker 0 0 0", "field -1", "field 0", "field 0", "as 0 1",
            "as 0 1", "as 0 1", "undo", "undo", "undo", "undo", "cut 0 0", "cut 0 0", "cut 0 0", "cut 0 0", "cut 0 0", "lays 0",
            "lays 0", "lays 0", "lays 0", "lays 0", "lays 0", "sheet 0 8 -1", "sheet 0 8 -1", "sheet 0 8 -1", "sheet 0 8 -1",
            "sheet 0 8 -1", "sheet 0 8 -1", "sheet 0 8 -1", "status 0 = 1", "status 1 = 2", "status 2 = 3", "status 3 = 4",
            "status 4 = 5", "status 5 = 6", "status 6 = 7", "status -1 = 28");
        Script.run("49: undo() takes none back", "image", "field -1", "lays 0", "undo = 0", "status 0 = 1", "status 5 = 1",
            "status -1 = 2");
        Script.run("49: nor does tear() or wipe()", "field -1", "tear", "wipe", "status -1 = 1");
        Script.run("49: BEYOND (counted from then on): another one", "status -2 = BEYOND", "status 0 = 1", "status 7 = BEYOND",
            "status 0 = 2", "status -1 = 2", "status MAX = BEYOND", "status MIN = BEYOND", "status -1 = 4", "status 0 = 4");
        Script.run("49: what answers no finding isn't counted", "status -1", "count 0", "excess", "plain", "tear", "wipe",
            "corners", "status -1 = 0");
    }
}
