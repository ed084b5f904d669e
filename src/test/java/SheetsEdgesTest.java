/** Promises 39 to 44: each sentence that names a boundary case. */
public final class SheetsEdgesTest {
    /** 0, 1 and 2 in a row from south to north, a walker on 0. */
    private static final String[] ROW = {"fields 3", "sides 0-6 4-10", "walker 0 0 0"};

    public static void main(String[] args) {
        sheet();
        write();
        lowestBits();
        copy();
        copyFindings();
        lays();
        book();
        read();
        Due.end();
    }

    private static void sheet() {
        Script.run("39: n numbers, none and 40", "sheet 0 8 0 = 0", "write 0 0 0 = BEYOND", "sheet 0 16 40 = 40",
            "write 0 39 1 = 0", "write 0 40 1 = BEYOND", "sheet 0 64 1 = 1", "write 0 0 1 = 0", "write 0 1 1 = BEYOND");
        Script.run("39: all 0, also where others were", "sheet 0 64 2", "write 0 0 5", "write 0 1 6", "sheet 0 64 2 = 2",
            "write 0 0 0 = 0", "write 0 1 7 = 0", "sheet 0 8 1", "sheet 0 8 2", "write 0 1 0 = 0");
        Script.run("39: bits 0: it is MISSING, and 0 is answered", "sheet 0 8 3 = 3", "sheet 0 0 3 = 0", "write 0 0 0 = MISSING",
            "sheet 0 0 0 = 0", "sheet 0 0 40 = 0", "lays 0 = MISSING", "sheet 0 8 3 = 3", "write 0 2 0 = 0");
        Script.run("39: a sheet of none isn't MISSING", "sheet 0 8 0 = 0", "lays 0 = 0");
        Script.run("39: the others stay", "sheet 1 8 1", "write 1 0 7", "sheet 0 8 1", "sheet 2 0 1", "write 1 0 7 = 7");
        Script.run("39: BEYOND: no such sheet", "sheet -1 8 1 = BEYOND", "sheet 4 8 1 = BEYOND", "sheet MAX 8 1 = BEYOND",
            "sheet MIN 8 1 = BEYOND");
        Script.run("39: BEYOND: other bits", "sheet 0 -8 1 = BEYOND", "sheet 0 1 1 = BEYOND", "sheet 0 7 1 = BEYOND",
            "sheet 0 9 1 = BEYOND", "sheet 0 15 1 = BEYOND", "sheet 0 17 1 = BEYOND", "sheet 0 32 1 = BEYOND",
            "sheet 0 63 1 = BEYOND", "sheet 0 65 1 = BEYOND", "sheet 0 -1 1 = BEYOND", "sheet 0 MIN 1 = BEYOND",
            "lays 0 = MISSING");
        Script.run("39: SIZE: n is below 0, also with bits 0", "sheet 0 8 2", "sheet 0 8 -1 = SIZE", "sheet 0 16 MIN = SIZE",
            "sheet 0 0 -1 = SIZE", "write 0 1 0 = 0");
        Script.run("39: BEYOND: n is above 40, also with bits 0", "sheet 0 8 2", "sheet 0 8 41 = BEYOND",
            "sheet 0 64 MAX = BEYOND", "sheet 0 0 41 = BEYOND", "write 0 1 0 = 0");
        Script.run("39: BEYOND, SIZE, BEYOND, as they are asked", "sheet 4 8 -1 = BEYOND", "sheet -1 0 -1 = BEYOND",
            "sheet 0 32 -1 = BEYOND", "sheet 0 8 -1 = SIZE", "status 0 = 3", "status 6 = 1");
    }

    private static void write() {
        Script.run("40: the first and the last number: what it was", "sheet 0 64 40", "write 0 0 1 = 0", "write 0 39 2 = 0",
            "write 0 0 3 = 1", "write 0 39 4 = 2", "write 0 1 0 = 0", "write 0 38 0 = 0");
        Script.run("40: BEYOND: no such sheet", "write -1 0 1 = BEYOND", "write 4 0 1 = BEYOND", "write MAX 0 1 = BEYOND",
            "write MIN 0 1 = BEYOND");
        Script.run("40: MISSING", "write 0 0 1 = MISSING", "write 3 0 1 = MISSING", "sheet 3 8 1", "write 3 0 1 = 0");
        Script.run("40: BEYOND: no such number", "sheet 0 8 3", "write 0 -1 1 = BEYOND", "write 0 3 1 = BEYOND",
            "write 0 40 1 = BEYOND", "write 0 MAX 1 = BEYOND", "write 0 MIN 1 = BEYOND", "sheet 1 8 0",
            "write 1 0 1 = BEYOND");
        Script.run("40: BEYOND, MISSING, BEYOND, as they are asked", "write 4 -1 1 = BEYOND", "write 0 -1 1 = MISSING",
            "write 0 40 1 = MISSING", "status 0 = 1", "status 5 = 2");
    }

    private static void lowestBits() {
        Script.run("40: of 8 bits: -128 to 127, round", "sheet 0 8 1", "write 0 0 127 = 0", "write 0 0 128 = 127",
            "write 0 0 -128 = -128", "write 0 0 -129 = -128", "write 0 0 255 = 127", "write 0 0 256 = -1",
            "write 0 0 257 = 0", "write 0 0 9223372036854775807 = 1", "write 0 0 -9223372036854775808 = -1",
            "write 0 0 0 = 0");
        Script.run("40: of 16 bits: -32768 to 32767, round", "sheet 0 16 1", "write 0 0 32767 = 0", "write 0 0 32768 = 32767",
            "write 0 0 -32768 = -32768", "write 0 0 -32769 = -32768", "write 0 0 65535 = 32767", "write 0 0 65536 = -1",
            "write 0 0 256 = 0", "write 0 0 9223372036854775807 = 256", "write 0 0 0 = -1");
        Script.run("40: of 64 bits: all of it", "sheet 0 64 1", "write 0 0 9223372036854775807 = 0",
            "write 0 0 -9223372036854775808 = 9223372036854775807", "write 0 0 4294967296 = -9223372036854775808",
            "write 0 0 2147483648 = 4294967296", "write 0 0 65536 = 2147483648", "write 0 0 0 = 65536", "status -1 = 0");
    }

    private static void copy() {
        String[] two = {"sheet 0 64 3", "write 0 0 1", "write 0 1 -2", "write 0 2 4294967296", "sheet 1 64 2"};
        Script.runOn(two, "41: none, at the first and behind the last", "copy 0 0 1 0 0 = 0", "copy 0 3 1 2 0 = 0",
            "write 1 0 0 = 0", "write 1 1 0 = 0");
        Script.runOn(two, "41: all of the one", "copy 1 0 0 0 2 = 2", "write 0 0 0 = 0", "write 0 1 0 = 0",
            "write 0 2 0 = 4294967296");
        Script.runOn(two, "41: up to the last of both", "copy 0 1 1 0 2 = 2", "write 1 0 0 = -2", "write 1 1 0 = 4294967296",
            "write 0 1 0 = -2");
        Script.runOn(two, "41: as they all were: onto itself, up", "copy 0 0 0 1 2 = 2", "write 0 0 0 = 1", "write 0 1 0 = 1",
            "write 0 2 0 = -2");
        Script.runOn(two, "41: as they all were: onto itself, down", "copy 0 1 0 0 2 = 2", "write 0 0 0 = -2",
            "write 0 1 0 = 4294967296", "write 0 2 0 = 4294967296");
        Script.runOn(two, "41: onto itself, in its place", "copy 0 0 0 0 3 = 3", "write 0 1 0 = -2");
        Script.run("41: 40 numbers", "sheet 2 8 40", "sheet 3 8 40", "write 2 0 7", "write 2 39 9", "copy 2 0 3 0 40 = 40",
            "write 3 0 0 = 7", "write 3 39 0 = 9", "copy 2 0 3 0 41 = BEYOND");
        Script.run("41: 16 bits, too", "sheet 2 16 1", "sheet 3 16 1", "write 2 0 -300", "copy 2 0 3 0 1 = 1",
            "write 3 0 0 = -300");
    }

    private static void copyFindings() {
        String[] four = {"sheet 0 8 3", "sheet 1 8 2", "sheet 2 16 3", "write 0 2 5", "write 1 1 6"};
        Script.runOn(four, "41: BEYOND: no such sheet (either)", "copy -1 0 0 0 1 = BEYOND", "copy 4 0 0 0 1 = BEYOND",
            "copy 0 0 -1 0 1 = BEYOND", "copy 0 0 4 0 1 = BEYOND", "copy MAX 0 MIN 0 1 = BEYOND");
        Script.runOn(four, "41: MISSING: one is, or both", "copy 3 0 0 0 1 = MISSING", "copy 0 0 3 0 1 = MISSING",
            "copy 3 0 3 0 0 = MISSING");
        Script.runOn(four, "41: KIND: not of as many bits", "copy 0 0 2 0 1 = KIND", "copy 2 0 0 0 1 = KIND",
            "copy 0 0 2 0 0 = KIND", "sheet 3 64 3", "copy 3 0 2 0 1 = KIND", "copy 2 0 3 0 1 = KIND");
        Script.runOn(four, "41: BEYOND: the one has not so many", "copy 0 2 1 0 2 = BEYOND", "copy 0 3 1 0 1 = BEYOND",
            "copy 0 4 1 0 0 = BEYOND", "copy 1 0 0 0 3 = BEYOND", "copy 0 MAX 1 0 1 = BEYOND");
        Script.runOn(four, "41: BEYOND: the other has not so many", "copy 0 0 1 1 2 = BEYOND", "copy 0 0 1 2 1 = BEYOND",
            "copy 0 0 1 3 0 = BEYOND", "copy 0 0 1 0 3 = BEYOND", "copy 0 0 1 MAX 1 = BEYOND");
        Script.runOn(four, "41: BEYOND: from, to or n is below 0", "copy 0 -1 1 0 1 = BEYOND", "copy 0 0 1 -1 1 = BEYOND",
            "copy 0 0 1 0 -1 = BEYOND", "copy 0 1 1 1 -1 = BEYOND", "copy 0 -1 1 0 0 = BEYOND", "copy 0 0 1 -1 0 = BEYOND",
            "copy 0 MIN 1 0 1 = BEYOND", "copy 0 0 1 MIN 1 = BEYOND", "copy 0 0 1 0 MIN = BEYOND");
        Script.runOn(four, "41: BEYOND: sums above the last int", "copy 0 1 1 0 MAX = BEYOND", "copy 0 0 1 1 MAX = BEYOND",
            "copy 0 MAX 1 MAX MAX = BEYOND", "copy 0 MAX 1 0 2 = BEYOND", "copy 0 0 1 MAX 2 = BEYOND");
        Script.runOn(four, "41: BEYOND, MISSING, KIND, BEYOND, as they are asked", "copy 3 0 4 0 1 = BEYOND",
            "copy 4 0 3 0 1 = BEYOND", "copy 3 -1 2 -1 -1 = MISSING", "copy 0 -1 3 -1 -1 = MISSING",
            "copy 0 -1 2 -1 -1 = KIND", "copy 0 9 2 9 9 = KIND");
    }

    private static void lays() {
        String[] three = {"field 5", "field 5", "field 5", "sheet 0 64 4"};
        Script.runOn(three, "42: 0 and 9", "write 0 0 0", "write 0 1 9", "write 0 2 1", "lays 0 = 3", "of 0 0 = 0", "of 1 0 = 9",
            "of 2 0 = 1");
        Script.runOn(three, "42: those that aren't 0 to 9 are left out", "write 0 0 -1", "write 0 1 10", "write 0 2 3",
            "lays 0 = 1", "of 0 0 = 5", "of 1 0 = 5", "of 2 0 = 3");
        Script.runOn(three, "42: those beyond ints are left out", "write 0 0 4294967296", "write 0 1 -9223372036854775808",
            "write 0 2 4294967299", "lays 0 = 0", "of 0 0 = 5", "of 1 0 = 5", "of 2 0 = 5");
        Script.runOn(three, "42: those that stand for none are left out", "write 0 3 7", "lays 0 = 3", "field 0", "of 3 0 = 0");
        Script.runOn(three, "42: a sheet of fewer", "sheet 1 8 1", "lays 1 = 1", "of 0 0 = 0", "of 1 0 = 5", "of 2 0 = 5");
        Script.runOn(three, "42: a sheet of none", "sheet 1 8 0", "lays 1 = 0", "of 0 0 = 5");
        Script.run("42: no FIELDS", "sheet 0 8 40", "lays 0 = 0");
        Script.run("42: 16 FIELDS of 40 numbers", "fields 16", "sheet 0 8 40", "write 0 15 9", "write 0 16 8", "lays 0 = 16",
            "of 15 0 = 9");
        Script.runOn(three, "42: of 8 bits: below 0", "sheet 1 8 1", "write 1 0 255", "lays 1 = 0", "of 0 0 = 5");
        Script.runOn(three, "42: BEYOND: no such sheet", "lays -1 = BEYOND", "lays 4 = BEYOND", "lays MAX = BEYOND",
            "lays MIN = BEYOND");
        Script.runOn(three, "42: MISSING", "lays 1 = MISSING", "lays 3 = MISSING", "sheet 0 0 0", "lays 0 = MISSING");
    }

    private static void book() {
        Script.runOn(ROW, "43: ON 0, 1, 2, .. STEPS", "sheet 0 8 4", "book 0 0 = 4", "write 0 0 9 = 0", "write 0 1 9 = 1",
            "write 0 2 9 = 2", "write 0 3 9 = 2");
        Script.runOn(ROW, "43: as many as it has numbers: none", "sheet 0 64 0", "book 0 0 = 0");
        Script.runOn(ROW, "43: as many as it has numbers: 40", "sheet 0 16 40", "book 0 0 = 40", "write 0 39 0 = 2",
            "on 0 39 0 = 2", "write 0 38 0 = 2", "write 0 37 0 = 1");
        Script.run("43: the last FIELD", "fields 16", "walker 0 15 0", "sheet 0 8 1", "book 0 0 = 1", "write 0 0 0 = 15");
        Script.runOn(ROW, "43: nothing else changes", "sheet 0 8 4", "sheet 1 8 1", "write 1 0 7", "book 0 0", "its 0 1 = 0",
            "its 0 3 = 0", "its 0 4 = 0", "write 1 0 7 = 7");
        Script.runOn(ROW, "43: BEYOND: no such sheet", "book -1 0 = BEYOND", "book 4 0 = BEYOND", "book MAX 0 = BEYOND",
            "book MIN 0 = BEYOND");
        Script.runOn(ROW, "43: MISSING", "book 0 0 = MISSING", "book 3 0 = MISSING");
        Script.runOn(ROW, "43: BEYOND: walker", "sheet 0 8 2", "write 0 0 9", "book 0 -1 = BEYOND", "book 0 1 = BEYOND",
            "book 0 MAX = BEYOND", "book 0 MIN = BEYOND", "write 0 0 9 = 9");
        Script.runOn(ROW, "43: BEYOND, MISSING, BEYOND, as they are asked", "book 4 1 = BEYOND", "book 0 1 = MISSING",
            "status 0 = 1", "status 5 = 1");
    }

    private static void read() {
        Script.runOn(ROW, "44: a sheet of none: all WAYS", "sheet 0 8 0", "read 0 0 = 12");
        Script.run("44: a sheet of none: all 64", "fields 16", "walker 0 0 0", "sheet 0 8 0", "read 0 0 = 64");
        Script.runOn(ROW, "44: one number: the WAYS of a FIELD", "sheet 0 8 1", "read 0 0 = 4", "write 0 0 2", "read 0 0 = 4");
        Script.runOn(ROW, "44: just so, up to the last number", "sheet 0 8 40", "book 0 0", "read 0 0 = 1", "write 0 39 1",
            "read 0 0 = 0", "write 0 39 2", "write 0 0 1", "read 0 0 = 0");
        Script.runOn(ROW, "44: no such FIELD", "sheet 0 64 1", "write 0 0 3", "read 0 0 = 0", "write 0 0 -1", "read 0 0 = 0",
            "write 0 0 4294967296", "read 0 0 = 0");
        Script.runOn(ROW, "44: no such FIELD later on", "sheet 0 64 2", "write 0 1 -1", "read 0 0 = 0", "write 0 1 0",
            "read 0 0 = 3");
        Script.runOn(ROW, "44: the first and the last WAY", "sheet 0 8 2", "write 0 1 1", "read 0 0 = 1", "write 0 0 2",
            "read 0 0 = 1", "glue 2 3 1 3", "read 0 0 = 2");
        Script.runOn(ROW, "44: nothing changes", "sheet 0 8 3", "read 0 0", "its 0 1 = 0", "its 0 2 = 0", "its 0 3 = 0",
            "its 0 4 = 0", "write 0 0 0 = 0");
        Script.run("44: put there now: with the MILES that it has", "fields 2", "sides 0-6 4-2", "walker 3 0 0", "sheet 0 8 3",
            "write 0 1 1", "read 0 0 = 2", "steps 2", "read 0 0 = 0");
        Script.runOn(ROW, "44: BEYOND: no such sheet", "read -1 0 = BEYOND", "read 4 0 = BEYOND", "read MAX 0 = BEYOND",
            "read MIN 0 = BEYOND");
        Script.runOn(ROW, "44: MISSING", "read 0 0 = MISSING", "read 3 0 = MISSING");
        Script.runOn(ROW, "44: BEYOND: walker", "sheet 0 8 0", "read 0 -1 = BEYOND", "read 0 1 = BEYOND", "read 0 MAX = BEYOND",
            "read 0 MIN = BEYOND");
        Script.runOn(ROW, "44: BEYOND, MISSING, BEYOND, as they are asked", "read 4 1 = BEYOND", "read 0 1 = MISSING",
            "status 0 = 1", "status 5 = 1");
    }
}
