/** Promises 26 to 30: each sentence that names a boundary case. */
public final class CornersEdgesTest {
    private static final String[] PILLOW = {"fields 1", "sides 0-1 2-3"};
    private static final String[] TORUS = {"fields 1", "sides 0-2 1-3"};
    /** Sixteen pillows: no plain has more corners, nor more left over. */
    private static final String[] PILLOWS = {"fields 16", "sides 0-1 2-3 4-5 6-7 8-9 10-11 12-13 14-15 16-17 18-19 20-21"
        + " 22-23 24-25 26-27 28-29 30-31 32-33 34-35 36-37 38-39 40-41 42-43 44-45 46-47 48-49 50-51 52-53 54-55 56-57"
        + " 58-59 60-61 62-63"};
    /** Found by trying: 63 about one corner, 1 about another. */
    private static final String[] MOST = {"fields 16", "sides 12-46 5-59 9-20 13-10 47-49 25-54 60-23 1-33 44-52 19-63 39-58"
        + " 28-2 35-53 57-32 27-51 16-0 6-43 4-11 56-3 42-24 36-18 48-62 37-61 30-31 29-45 38-8 17-21 50-22 55-34 26-40 7-15"
        + " 41-14"};

    public static void main(String[] args) {
        about();
        corners();
        excess();
        bent();
        parts();
        Due.end();
    }

    private static void about() {
        Script.runOn(PILLOW, "26: 1", "about 0 0 = 1", "about 0 2 = 1", "about 0 1 = 2", "about 0 3 = 2");
        Script.runOn(TORUS, "26: 4, of one FIELD", "about 0 0 = 4", "about 0 1 = 4", "about 0 2 = 4", "about 0 3 = 4");
        Script.runOn(MOST, "26: 63", "about 0 0 = 63", "about 15 3 = 63", "about 7 2 = 1");
        Script.run("26: NONE: it is OPEN", "fields 1", "about 0 0 = NONE", "about 0 3 = NONE", "sides 0-2",
            "about 0 0 = NONE", "about 0 1 = NONE", "about 0 2 = NONE", "about 0 3 = NONE");
        Script.run("26: NONE: OPEN at the last SIDE", "fields 3", "sides 0-6 5-8", "about 0 0 = NONE", "about 1 1 = NONE",
            "about 2 3 = NONE", "sides 11-1", "about 0 0 = 3", "about 1 1 = 3", "about 2 3 = 3");
        Script.runOn(TORUS, "26: BEYOND: no such FIELD", "about -1 0 = BEYOND", "about 1 0 = BEYOND", "about MAX 0 = BEYOND",
            "about MIN 0 = BEYOND");
        Script.runOn(TORUS, "26: BEYOND: no such CORNER", "about 0 -1 = BEYOND", "about 0 4 = BEYOND",
            "about 0 MAX = BEYOND", "about 0 MIN = BEYOND");
        Script.run("26: BEYOND is asked ahead of NONE", "fields 1", "about 0 4 = BEYOND", "about 1 0 = BEYOND",
            "status 3 = 0");
    }

    private static void corners() {
        Script.run("27: no FIELDS", "corners = 0");
        Script.run("27: all are OPEN", "fields 16", "corners = 0", "sides 0-2", "corners = 0");
        Script.runOn(TORUS, "27: those ABOUT one being one", "corners = 1");
        Script.runOn(PILLOW, "27: three of one FIELD", "corners = 3");
        Script.runOn(PILLOWS, "27: 48", "corners = 48");
        Script.runOn(MOST, "27: two of sixteen FIELDS", "corners = 2");
        Script.run("27: the last CORNER alone", "fields 16", "sides 63-60", "corners = 1", "about 15 3 = 1");
    }

    private static void excess() {
        Script.run("28: no FIELDS", "excess = 0");
        Script.run("28: all are OPEN", "fields 16", "excess = 0");
        Script.runOn(TORUS, "28: 4 less 4", "excess = 0");
        Script.run("28: 4 less 1", "fields 1", "sides 0-1", "excess = 3");
        Script.runOn(PILLOWS, "28: 128", "excess = 128");
        Script.runOn(MOST, "28: below 0, and no finding", "excess = -56", "status -1 = 0");
        Script.run("28: -1", "fields 5", "sides 0-5 4-9 8-13 12-17 16-1", "about 0 0 = 5", "excess = -1", "status -1 = 0");
    }

    private static void bent() {
        Script.run("29: no FIELDS", "bent = 0");
        Script.run("29: all are OPEN", "fields 16", "bent = 0");
        Script.runOn(TORUS, "29: just 4", "bent = 0");
        Script.run("29: 3 and 5", "fields 8", "sides 0-5 4-9 8-1 12-17 16-21 20-25 24-29 28-13", "about 0 0 = 3",
            "about 3 0 = 5", "bent = 255");
        Script.run("29: 4 of four FIELDS", "fields 4", "sides 0-5 4-9 8-13 12-1", "about 0 0 = 4", "bent = 0");
        Script.run("29: the last CORNER of the last FIELD", "fields 16", "sides 63-60", "bent = 32768");
        Script.runOn(PILLOWS, "29: all 16", "bent = 65535");
    }

    private static void parts() {
        Script.run("30: no FIELDS", "parts = 0");
        Script.run("30: one", "fields 1", "parts = 1", "sides 0-2", "parts = 1");
        Script.runOn(PILLOWS, "30: 16", "parts = 16");
        Script.run("30: a row of 16, its ends the last and the first", "fields 16", "parts = 16",
            "sides 0-6 4-10 8-14 12-18 16-22 20-26 24-30 28-34 32-38 36-42 40-46 44-50 48-54 52-58 56-62", "parts = 1",
            "cut 7 0", "parts = 2");
        Script.run("30: two parts, number by number", "fields 16",
            "sides 0-10 8-18 16-26 24-34 32-42 40-50 48-58 4-14 12-22 20-30 28-38 36-46 44-54 52-62", "parts = 2",
            "sides 56-60", "parts = 1");
    }
}
