/** Promises 36 to 38 and THE TEXT of a PLAIN: each sentence that names a boundary case. */
public final class TextEdgesTest {
    /** Two fields, north of 0 glued to south of 1; field 2 is not there. */
    private static final String[] TWO = {"fields 2", "sides 0-6"};
    private static final String FIELDS_15 = "field;field;field;field;field;field;field;field;field;field;field;field;field"
        + ";field;field";

    public static void main(String[] args) {
        feed();
        wipe();
        plain();
        words();
        numbers();
        blanks();
        text();
        sides();
        fieldItem();
        glueItem();
        cutItem();
        walkerItem();
        endsTooEarly();
        faultChangesNothing();
        Due.end();
    }

    private static void feed() {
        Script.run("36: the lowest byte alone, n is 1", "feed 1684104563 1 = 1", "text ield = -1", "feed 1633771878 1 = 1",
            "tape ield = 5", "plain = 1");
        Script.run("36: the highest of these first, n is 2 and 3", "feed 26217 2 = 2", "feed 6646884 3 = 5", "plain = 1");
        Script.run("36: n is 4, of a number below 0", "feed -1 4 = 4", "plain = -1", "feed 1718183276 4 = 4",
            "feed -156 1 = 5", "plain = 1");
        Script.run("36: bytes above the n lowest are left out", "feed 1094870633 2 = 2", "feed 1097165924 3 = 5", "plain = 1");
        Script.run("36: behind it", "tape fie = 3", "feed 108 1 = 4", "feed 100 1 = 5", "plain = 1");
        Script.run("36: BEYOND: n", "feed 0 0 = BEYOND", "feed 0 -1 = BEYOND", "feed 0 5 = BEYOND", "feed 0 MAX = BEYOND",
            "feed 0 MIN = BEYOND", "count 2 = 0");
        String blanks116 = " ".repeat(116);
        Script.run("36: up to 120", "tape " + blanks116 + " = 116", "feed 0 4 = 120", "count 2 = 120");
        Script.run("36: FULL: 4 behind 117", "tape " + blanks116 + "  = 117", "feed 0 4 = FULL", "count 2 = 117",
            "feed 0 3 = 120");
        Script.run("36: FULL: 3 behind 118", "tape " + blanks116 + "   = 118", "feed 0 3 = FULL", "feed 0 4 = FULL",
            "feed 0 2 = 120");
        Script.run("36: FULL: 2 behind 119", "tape " + blanks116 + "    = 119", "feed 0 2 = FULL", "feed 0 1 = 120");
        Script.run("36: FULL: 1 behind 120", "tape " + blanks116 + "     = 120", "feed 0 1 = FULL", "feed 0 4 = FULL");
        Script.run("36: FULL: none of them comes", "tape " + " ".repeat(112) + "field; = 118", "feed 1701604452 4 = FULL",
            "count 2 = 118", "plain = -119");
        Script.run("36: BEYOND is asked ahead of FULL", "tape " + blanks116 + "     = 120", "feed 0 5 = BEYOND",
            "feed 0 0 = BEYOND", "status 1 = 0");
    }

    private static void wipe() {
        Script.run("37: it had none", "wipe = 0", "count 2 = 0");
        Script.run("37: how many it had", "tape field = 5", "wipe = 5", "count 2 = 0", "wipe = 0", "plain = -1");
        Script.run("37: it had 120", "tape " + " ".repeat(120) + " = 120", "wipe = 120", "feed 0 4 = 4");
        Script.run("37: what was on it is gone", "tape field", "wipe = 5", "tape fi", "plain = -1", "count 0 = 0");
    }

    private static void plain() {
        Script.run("38: THE TAPE is empty: a FAULT, no finding", "plain = -1", "status -1 = 0", "count 2 = 0");
        Script.run("38: one ITEM", "text field = 1", "count 0 = 1", "count 2 = 0");
        Script.run("38: it comes to what there is", "fields 2", "text field rough 3 = 1", "count 0 = 3", "of 2 0 = 3");
        Script.run("38: 120 bytes, the last of a TOKEN", "text " + " ".repeat(115) + "field = 1", "count 0 = 1");
        Script.run("38: 120 bytes, the first of a TOKEN", "text field" + " ".repeat(115) + " = 1", "count 0 = 1");
        Script.run("38: 16 ITEMS", "text " + FIELDS_15 + ";field = 16", "count 0 = 16");
        Script.run("38: the most ITEMS that 120 bytes hold", "text " + FIELDS_15 + ";field;cat at 0east;cat at0west = 18",
            "count 0 = 16", "count 1 = 2");
        Script.run("38: empty then, and empty behind a FAULT, too", "text field = 1", "count 2 = 0", "text house = -1",
            "count 2 = 0", "text field = 1");
        Script.run("38: -1 less its place: the first and the last byte", "text ; = -1", "text field;! = -7",
            "text " + " ".repeat(119) + "! = -120", "status -1 = 0");
    }

    private static void words() {
        Script.run("WORDS: letters a to z: the bytes about them begin no TOKEN", "text field` = -6", "text field{ = -6",
            "text `field = -1", "text {field = -1", "text @ = -1", "text Field = -1", "text fieldZ = -6");
        Script.run("WORDS: letters a to z: those at the ends are of a WORD", "text fielda = -1", "text fieldz = -1",
            "text afield = -1", "text zfield = -1");
        Script.run("WORDS as long as can be", "text fieldfield = -1", "text fieldrough 3 = -1", "text field roughrough 3 = -7");
        Script.run("WORDS: no shorter ones, no longer ones", "text fiel = -1", "text fields = -1", "text f = -1");
        Script.runOn(TWO, "WORDS: no shorter ones, no longer ones: the others", "text glu 0 = -1", "text glues 0 = -1",
            "text cu 0 = -1", "text cuts 0 = -1", "text ca at 0 west = -1", "text cats at 0 west = -1",
            "text cat a 0 west = -5", "text cat ats 0 west = -5", "text field roug 3 = -7", "text field roughs 3 = -7",
            "text cat at 0 wes = -10", "text cat at 0 wests = -10");
        Script.run("another WORD, of the same length", "text fielt = -1", "text gield = -1", "text rough = -1", "text at = -1",
            "text north = -1");
    }

    private static void numbers() {
        Script.run("NUMBERS: the bytes about the digits begin no TOKEN", "text field rough / = -13", "text field rough : = -13",
            "text field rough 3: = -14", "text field rough 3/ = -14", "count 0 = 0");
        Script.run("NUMBERS: digits 0 and 9", "text field rough 0 = 1", "text field rough 9 = 1", "of 0 0 = 0", "of 1 0 = 9");
        Script.run("NUMBERS as long as can be", "text field rough 33 = -13", "text field rough 3 3 = -15");
        Script.run("NUMBERS: zeros ahead", "text field rough 009 = 1", "of 0 0 = 9", "text field rough 010 = -13");
        Script.run("NUMBERS: 999 at most", "text field rough 999 = -13", "text field rough 1000 = -13",
            "text field rough 4294967296 = -13", "text field rough 18446744073709551616 = -13",
            "text field rough " + "9".repeat(100) + " = -13", "text field rough " + "1".repeat(100) + "0 = -13");
        Script.run("NUMBERS: no sign ahead", "text field rough -1 = -13", "text field rough +1 = -13", "count 0 = 0");
    }

    private static void blanks() {
        Script.run("blanks may stand between", "text field rough 3;field = 2", "text field  rough   3  ;   field = 2",
            "text   field = 1", "text field   = 1", "of 2 0 = 3");
        Script.run("blanks need not stand between", "text field rough9;field;glue0north1south;cat at0east = 4", "of 0 0 = 9",
            "over 0 0 = 6", "its 0 2 = 1");
        Script.run("blanks may not stand within", "text fi eld = -1", "text field rou gh 3 = -7");
        Script.run("bytes 31, 33, 9, 10 and 0 are no blanks", "tape field", "feed 31 1", "plain = -6", "tape field",
            "feed 33 1", "plain = -6", "tape field", "feed 9 1", "plain = -6", "tape field", "feed 10 1", "plain = -6",
            "tape field", "feed 0 1", "plain = -6", "count 0 = 0");
        Script.run("bytes from 128 to 255 begin no TOKEN", "feed 128 1", "plain = -1", "feed 160 1", "plain = -1",
            "feed 255 1", "plain = -1", "tape field", "feed 230 1", "plain = -6", "tape field", "feed 160 1", "plain = -6");
    }

    private static void text() {
        Script.run("ITEM { ; ITEM }: no ITEM", "text  = -1", "text     = -4", "text ; = -1", "text ;field = -1");
        Script.run("ITEM { ; ITEM }: none behind a SIGN", "text field; = -7", "text field;  = -8", "text field;;field = -7",
            "count 0 = 0");
        Script.run("ITEM { ; ITEM }: no SIGN", "text field field = -7", "text field 3 = -7", "text field, field = -6",
            "count 0 = 0");
        Script.run("SIGN ;: the bytes about it", "text field:field = -6", "text field<field = -6");
        Script.run("a NUMBER for an ITEM", "text 3 = -1", "text field;3 = -7");
    }

    private static void sides() {
        String[] names = {"north", "east", "south", "west"};
        for (int side = 0; side < 4; side++) {
            for (int its = 0; its < 4; its++) {
                Script.run("A SIDE: north, east, south or west", "fields 2",
                    "text glue 0 " + names[side] + " 1 " + names[its] + " = 1", "over 0 " + side + " = " + (4 + its),
                    "text cut 1 " + names[its] + " = 1", "count 3 = 0", "text cat at 1 " + names[side] + " = 1",
                    "its 0 2 = " + side);
            }
        }
        Script.runOn(TWO, "A SIDE: another WORD", "text glue 0 up = -8", "text cut 0 field = -7", "text cat at 0 at = -10",
            "text glue 0 east 1 rough = -15");
        Script.runOn(TWO, "A SIDE: another TOKEN", "text glue 0 1 = -8", "text cut 0 ; = -7", "text cat at 0 ! = -10");
    }

    private static void fieldItem() {
        Script.run("rough: 0 to 9", "text field rough 0;field rough 9;field rough 1 = 3", "of 0 0 = 0", "of 1 0 = 9",
            "of 2 0 = 1", "text field rough 10 = -13", "count 0 = 3");
        Script.run("rough: no NUMBER", "text field rough;field = -12", "text field rough rough = -13", "text field rough ! = -13");
        Script.run("perhaps rough, once", "text field rough 3 rough 4 = -15");
        Script.run("field for a 17th: its own place", "fields 15", "text field;field = -7", "count 0 = 15", "text field = 1",
            "text field = -1", "text  field rough 3 = -2", "count 0 = 16");
        Script.run("field for a 17th: whatever stands behind it", "fields 16", "text field rough 10 = -1", "text field ! = -1",
            "text field field = -1");
        Script.run("the 16th within one text", "field 0", "text " + FIELDS_15 + " = 15", "text field = -1", "count 0 = 16");
        Script.run("the 17th within one text", "field 0", "text " + FIELDS_15 + ";field = -91", "count 0 = 1");
    }

    private static void glueItem() {
        Script.run("glue: a FIELD there by then", "text glue 0 north = -6", "text field;glue 0 north 1 south = -20",
            "text field;field;glue 0 north 1 south = 3", "text glue 1 north 2 south;field = -14",
            "text field;glue 1 north 2 south = 2", "count 0 = 3", "over 1 0 = 10");
        Script.run("glue: the last FIELD, and none behind it", "fields 16", "text glue 15 west 0 north = 1", "over 15 3 = 0",
            "text glue 16 west = -6", "text glue 0 east 16 west = -13", "text glue 999 west = -6", "text glue 256 west = -6");
        Script.runOn(TWO, "glue: a SIDE that isn't GLUED, the first", "text glue 0 north 1 west = -8",
            "text glue 1 south 0 west = -8", "text glue 0 north ! = -8");
        Script.runOn(TWO, "glue: a SIDE that isn't GLUED, the second", "text glue 1 west 0 north = -15",
            "text glue 0 west 1 south = -15");
        Script.runOn(TWO, "glue: another one than the first", "text glue 0 east 0 east = -15", "text glue 1 west 1 west = -15",
            "text glue 0 east 1 east = 1", "text glue 1 north 1 west = 1");
        Script.runOn(TWO, "glue: one that an ITEM ahead has GLUED", "text glue 0 east 1 west;glue 0 east 0 west = -27",
            "text glue 0 east 1 west;glue 0 west 1 west = -34", "count 3 = 2");
        Script.runOn(TWO, "glue: one that an ITEM ahead has cut", "text cut 1 south;glue 0 north 0 south = 2", "over 0 0 = 2");
        Script.runOn(TWO, "glue: other TOKENS", "text glue north = -6", "text glue ; = -6", "text glue ! = -6",
            "text glue 0 east east = -13", "text glue 0 east ; = -13", "text glue 0 east 1 1 = -15",
            "text glue 0 east 1 west west = -20");
    }

    private static void cutItem() {
        Script.runOn(TWO, "cut: it is no more, nor that to which it was", "text cut 1 south = 1", "over 0 0 = NONE",
            "over 1 2 = NONE");
        Script.runOn(TWO, "cut: a SIDE that is GLUED", "text cut 0 east = -7", "text cut 1 north = -7", "count 3 = 2");
        Script.runOn(TWO, "cut: not one that an ITEM ahead has cut", "text cut 0 north;cut 0 north = -19",
            "text cut 0 north;cut 1 south = -19", "count 3 = 2");
        Script.runOn(TWO, "cut: one that an ITEM ahead has GLUED", "text glue 0 east 1 west;cut 1 west = 2", "count 3 = 2",
            "over 0 1 = NONE");
        Script.runOn(TWO, "cut: no such FIELD", "text cut 2 north = -5", "text cut 16 north = -5", "text cut 999 north = -5");
        Script.runOn(TWO, "cut: other TOKENS", "text cut north = -5", "text cut ; = -5", "text cut 0 0 = -7",
            "text cut 0 north 1 = -13");
    }

    private static void walkerItem() {
        String[] kinds = {"walker", "surveyor", "soldier", "boy", "carter", "cat"};
        for (int kind = 0; kind < 6; kind++) {
            Script.runOn(TWO, "the name of a KIND: " + kinds[kind], "text " + kinds[kind] + " at 1 west = 1",
                "its 0 0 = " + kind, "its 0 1 = 1", "its 0 2 = 3", "its 0 3 = 0", "its 0 4 = 0");
        }
        Script.run("a FIELD there by then", "text cat at 0 north = -8", "text field;cat at 1 north = -14",
            "text field;cat at 0 north = 2", "text cat at 1 north;field = -8", "count 1 = 1");
        Script.run("the last FIELD, and none behind it", "fields 16", "text cat at 15 west = 1", "its 0 1 = 15",
            "text cat at 16 west = -8");
        Script.runOn(TWO, "other TOKENS", "text cat 0 north = -5", "text cat ; = -5", "text cat cat = -5",
            "text cat at north = -8", "text cat at ! = -8", "text cat at 0 north north = -16");
        String six = "cat at 0 north;cat at 0 north;cat at 0 north;cat at 0 north;cat at 0 north;cat at 0 north";
        Script.run("six within one text", "fields 1", "text " + six + " = 6", "count 1 = 6");
        Script.run("the 7th within one text", "fields 1", "text " + six + ";boy at 0 east = -91", "count 1 = 0");
        Script.run("the name of a KIND for a 7th: its own place, whatever stands behind it", "fields 1", "text " + six + " = 6",
            "text cat at 0 north = -1", "text  boy ! = -2", "text field;walker = -7", "text surveyor = -1",
            "text soldier = -1", "text carter = -1", "count 1 = 6", "count 0 = 1");
        Script.run("a FIELD may come with six WALKERS", "fields 1", "text " + six + " = 6", "text field = 1");
    }

    private static void endsTooEarly() {
        Script.runOn(TWO, "how many bytes there are if it ends too early", "text  = -1", "text glue = -5", "text glue 0 = -7",
            "text glue 0 east = -12", "text glue 0 east 1 = -14", "text cut = -4", "text cut 0 = -6", "text cat = -4",
            "text cat at = -7", "text cat at 0 = -9", "text field rough = -12", "text field; = -7", "status -1 = 0");
        Script.runOn(TWO, "blanks behind it are bytes, too", "text glue  = -6", "text cut 0   = -8", "text field rough   = -14",
            "text cat at  = -8");
        Script.run("it ends too early with 120 bytes", "text field;" + " ".repeat(114) + " = -121", "count 0 = 0");
        Script.runOn(TWO, "a FAULT ahead of the end is told", "text glue 9 = -6", "text glue 0 north = -8", "text cut 0 east = -7",
            "text cat a = -5", "text field roug = -7");
    }

    private static void faultChangesNothing() {
        Script.runOn(TWO, "38: nothing changes but that THE TAPE is empty", "rough 0 4", "walker 3 0 0", "steps 5", "image",
            "steps 2", "text field rough 9;cut 0 north;glue 0 north 2 north;cat at 2 west;boy at 0 east;house = -76",
            "count 0 = 2", "count 1 = 1", "count 2 = 0", "over 0 0 = 6", "over 1 2 = 0", "of 0 0 = 4", "of 2 0 = BEYOND",
            "count 4 = 3", "its 0 4 = 4", "status 0 = 1", "undo = 2", "tear = 1");
    }
}
