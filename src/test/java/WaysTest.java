/** Promises 20 to 25: straight ways and square turns. */
public final class WaysTest {
    /** Fields 0, 1, 2, 3 in a row from west to east; 3 is closed to 0 if it is a ring. */
    private static BentPlain row(boolean ring) {
        return Due.told("field;field;field;field;glue 0 east 1 west;glue 1 east 2 west;glue 2 east 3 west"
            + (ring ? ";glue 3 east 0 west" : ""));
    }

    public static void main(String[] args) {
        closes();
        bumps();
        square();
        dine();
        sees();
        twice();
        Due.end();
    }

    private static void closes() {
        BentPlain x = row(true);
        Due.is("closes(0, 1)", x.closes(0, 1), 4);
        Due.is("closes(2, 3)", x.closes(2, 3), 4);
        Due.is("closes(0, 0)", x.closes(0, 0), Due.NONE);
        x.glue(0, 0, 2, 0);
        x.glue(0, 2, 2, 2);
        Due.is("closes(0, 0): back with its heading, not only on its field", x.closes(0, 0), 2);
        x.glue(1, 0, 1, 2);
        Due.is("closes(1, 0): by itself", x.closes(1, 0), 1);
        Due.is("closes(4, 0)", x.closes(4, 0), Due.BEYOND);
        Due.is("closes(-1, 0)", x.closes(-1, 0), Due.BEYOND);
        Due.is("closes(0, 4)", x.closes(0, 4), Due.BEYOND);
        Due.is("closes(0, -1)", x.closes(0, -1), Due.BEYOND);
        longest();
    }

    /** Straight ways that cross each of 16 fields twice: once from the west, once from the south or back. */
    private static void longest() {
        BentPlain x = new BentPlain();
        for (int f = 0; f < 16; f++) {
            x.field(0);
        }
        for (int f = 0; f < 15; f++) {
            x.glue(f, 1, f + 1, 3);
            x.glue(f, 0, f + 1, 2);
        }
        x.glue(15, 1, 0, 2);
        Due.is("bumps(0, 1): through all twice", x.bumps(0, 1), 31);
        x.glue(15, 0, 0, 3);
        Due.is("closes(0, 1)", x.closes(0, 1), 32);
        Due.is("sees(0, 1)", x.sees(0, 1), 65535);
        BentPlain y = new BentPlain();
        for (int f = 0; f < 16; f++) {
            y.field(0);
        }
        for (int f = 0; f < 15; f++) {
            y.glue(f, 1, f + 1, 3);
            y.glue(f, 0, f + 1, 2);
        }
        y.glue(15, 1, 15, 0);
        Due.is("bumps(0, 1): to the end and back", y.bumps(0, 1), 31);
        y.glue(0, 3, 0, 2);
        Due.is("closes(0, 1)", y.closes(0, 1), 32);
        Due.is("closes(0, 0)", y.closes(0, 0), 32);
    }

    private static void bumps() {
        BentPlain x = row(false);
        Due.is("bumps(0, 1)", x.bumps(0, 1), 3);
        Due.is("bumps(2, 3)", x.bumps(2, 3), 2);
        Due.is("bumps(0, 3)", x.bumps(0, 3), 0);
        Due.is("bumps(0, 1) in a ring", row(true).bumps(0, 1), Due.NONE);
        Due.is("bumps(4, 0)", x.bumps(4, 0), Due.BEYOND);
        Due.is("bumps(0, 4)", x.bumps(0, 4), Due.BEYOND);
        Due.is("bumps(0, -1)", x.bumps(0, -1), Due.BEYOND);
    }

    private static void square() {
        BentPlain flat = Due.told("field;field;field;field;glue 0 north 1 south;glue 1 east 2 west",
            "glue 2 south 3 north;glue 3 west 0 east");
        Due.is("square(0, 0, 1) in the flat", flat.square(0, 0, 1), 4);
        Due.is("square(0, 0, 2) bumps", flat.square(0, 0, 2), Due.NONE);
        BentPlain three = Due.told("field;field;field;glue 0 north 1 south;glue 0 east 2 west;glue 1 east 2 north");
        Due.is("three right angles and home", three.square(0, 0, 1), 3);
        Due.is("square(0, 1, 1) bumps", three.square(0, 1, 1), Due.NONE);
        BentPlain torus = Due.told("field;field;glue 0 east 1 west;glue 1 east 0 west",
            "glue 0 north 0 south;glue 1 north 1 south");
        Due.is("square(0, 0, 1)", torus.square(0, 0, 1), 4);
        Due.is("square(0, 1, 9)", torus.square(0, 1, 9), 4);
        Due.is("square(0, 0, 0)", torus.square(0, 0, 0), Due.BEYOND);
        Due.is("square(0, 0, 10)", torus.square(0, 0, 10), Due.BEYOND);
        Due.is("square(2, 0, 1)", torus.square(2, 0, 1), Due.BEYOND);
        Due.is("square(0, 4, 1)", torus.square(0, 4, 1), Due.BEYOND);
        BentPlain one = Due.told("field;glue 0 north 0 east;glue 0 south 0 west");
        Due.is("one turn brings home", one.square(0, 0, 1), 1);
    }

    private static void dine() {
        BentPlain x = row(true);
        Due.is("dine(1, 0, 1, 2): on one field", x.dine(1, 0, 1, 2), 0);
        Due.is("dine(0, 1, 2, 3): both come to 1", x.dine(0, 1, 2, 3), 1);
        Due.is("dine(0, 1, 1, 3): they pass each other", x.dine(0, 1, 1, 3), Due.NONE);
        Due.is("dine(0, 1, 1, 1): one behind the other", x.dine(0, 1, 1, 1), Due.NONE);
        Due.is("dine(0, 1, 2, 0): the other bumps", x.dine(0, 1, 2, 0), Due.NONE);
        Due.is("dine(2, 0, 0, 1): the one bumps", x.dine(2, 0, 0, 1), Due.NONE);
        Due.is("dine(4, 0, 0, 0)", x.dine(4, 0, 0, 0), Due.BEYOND);
        Due.is("dine(0, 4, 0, 0)", x.dine(0, 4, 0, 0), Due.BEYOND);
        Due.is("dine(0, 0, 4, 0)", x.dine(0, 0, 4, 0), Due.BEYOND);
        Due.is("dine(0, 0, 0, -1)", x.dine(0, 0, 0, -1), Due.BEYOND);
        BentPlain rings = Due.told("field;field;field;field;field;glue 0 east 1 west;glue 1 east 2 west",
            "glue 2 east 0 west;glue 0 north 3 south;glue 3 north 4 south;glue 4 north 0 south");
        Due.is("two rings with one field in common", rings.dine(1, 1, 4, 2), 2);
        rings.cut(0, 2);
        Due.is("a ring and a way that ends", rings.dine(1, 3, 3, 2), 1);
        lastDine();
    }

    /** Two rings, of 9 fields to the east (0 to 8) and of 8 to the north (0, 9 to 15). */
    private static void lastDine() {
        BentPlain x = new BentPlain();
        for (int f = 0; f < 16; f++) {
            x.field(0);
        }
        for (int f = 0; f <= 8; f++) {
            x.glue(f, 1, (f + 1) % 9, 3);
        }
        x.glue(0, 0, 9, 2);
        for (int f = 9; f < 15; f++) {
            x.glue(f, 0, f + 1, 2);
        }
        x.glue(15, 0, 0, 2);
        Due.is("dine in 64", x.dine(8, 1, 0, 0), 64);
        Due.is("dine in 64", x.dine(0, 0, 8, 1), 64);
        Due.is("dine in 65", x.dine(7, 1, 15, 0), Due.NONE);
        Due.is("dine in 63", x.dine(0, 1, 9, 0), 63);
    }

    private static void sees() {
        BentPlain x = row(false);
        Due.is("sees(0, 1)", x.sees(0, 1), 15);
        Due.is("sees(2, 3)", x.sees(2, 3), 7);
        Due.is("sees(3, 1): its own", x.sees(3, 1), 8);
        Due.is("sees(1, 1) in a ring", row(true).sees(1, 1), 15);
        Due.is("sees(4, 0)", x.sees(4, 0), Due.BEYOND);
        Due.is("sees(-1, 0)", x.sees(-1, 0), Due.BEYOND);
        Due.is("sees(0, 4)", x.sees(0, 4), Due.BEYOND);
    }

    private static void twice() {
        Due.is("twice(0) in a row", row(false).twice(0), 0);
        BentPlain x = row(true);
        Due.is("twice(0) in a ring: all but its own", x.twice(0), 3);
        x.cut(1, 1);
        Due.is("twice(0) in a row again", x.twice(0), 0);
        BentPlain y = Due.told("field;field;field;glue 0 north 1 south;glue 1 north 2 west;glue 0 east 2 north",
            "glue 2 south 2 east");
        Due.is("sees(0, 0)", y.sees(0, 0), 7);
        Due.is("sees(0, 1)", y.sees(0, 1), 7);
        Due.is("twice(0): seen by two ways", y.twice(0), 2);
        BentPlain z = Due.told("field;field;field;glue 1 north 0 south;glue 1 east 2 west;glue 1 west 2 east");
        Due.is("twice(1): 0 is seen once", z.twice(1), 1);
        Due.is("twice(3)", y.twice(3), Due.BEYOND);
        Due.is("twice(-1)", y.twice(-1), Due.BEYOND);
    }
}
