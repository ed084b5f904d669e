/** Promises 26 to 30: corners, what is left over, parts. */
public final class CornersTest {
    /** The six sides of a cube: 0 on top, 1 to 4 about it (north, east, south, west), 5 below. */
    private static BentPlain cube() {
        return Due.told("field;field;field;field;field;field",
            "glue 0 north 1 north;glue 0 east 2 north;glue 0 south 3 north;glue 0 west 4 north",
            "glue 2 west 3 east;glue 3 west 4 east;glue 4 west 1 east;glue 1 west 2 east",
            "glue 5 north 3 south;glue 5 east 2 south;glue 5 south 1 south;glue 5 west 4 south");
    }

    public static void main(String[] args) {
        about();
        corners();
        excess();
        bent();
        parts();
        Due.end();
    }

    private static void about() {
        BentPlain x = cube();
        for (int f = 0; f < 6; f++) {
            for (int c = 0; c < 4; c++) {
                Due.is("cube: about(" + f + ", " + c + ")", x.about(f, c), 3);
            }
        }
        x.cut(0, 0);
        Due.is("open by its first side", x.about(0, 0), Due.NONE);
        Due.is("open by its second side", x.about(0, 3), Due.NONE);
        Due.is("open further on", x.about(2, 0), Due.NONE);
        Due.is("not open", x.about(0, 1), 3);
        Due.is("about(6, 0)", x.about(6, 0), Due.BEYOND);
        Due.is("about(-1, 0)", x.about(-1, 0), Due.BEYOND);
        Due.is("about(0, 4)", x.about(0, 4), Due.BEYOND);
        Due.is("about(0, -1)", x.about(0, -1), Due.BEYOND);
        BentPlain one = Due.told("field;glue 0 north 0 east");
        Due.is("one about a corner", one.about(0, 0), 1);
        Due.is("the corner west of it is open", one.about(0, 3), Due.NONE);
        BentPlain torus = Due.told("field;glue 0 north 0 south;glue 0 east 0 west");
        Due.is("four about it, all of one field", torus.about(0, 2), 4);
    }

    private static void corners() {
        Due.is("corners of nothing", new BentPlain().corners(), 0);
        Due.is("corners of a field", Due.told("field").corners(), 0);
        BentPlain x = cube();
        Due.is("corners of a cube", x.corners(), 8);
        x.cut(0, 0);
        Due.is("corners of a cube cut open", x.corners(), 6);
        Due.is("corners of a torus", Due.told("field;glue 0 north 0 south;glue 0 east 0 west").corners(), 1);
        Due.is("corners of a pillow", Due.told("field;glue 0 north 0 east;glue 0 south 0 west").corners(), 3);
    }

    private static void excess() {
        Due.is("excess of nothing", new BentPlain().excess(), 0);
        Due.is("excess of a cube", cube().excess(), 8);
        Due.is("excess of a torus", Due.told("field;glue 0 north 0 south;glue 0 east 0 west").excess(), 0);
        BentPlain two = twelveAbout();
        Due.is("about(0, 0)", two.about(0, 0), 12);
        Due.is("excess below 0", two.excess(), -8);
        Due.is("it is no finding", two.status(-1), 0);
    }

    /** A row of three fields closed to a plain with one corner: twelve about it. */
    private static BentPlain twelveAbout() {
        return Due.told("field;field;field;glue 0 east 1 west;glue 1 east 2 west;glue 2 east 0 west",
            "glue 0 north 1 south;glue 1 north 0 south;glue 2 north 2 south");
    }

    private static void bent() {
        Due.is("bent of nothing", new BentPlain().bent(), 0);
        BentPlain x = cube();
        Due.is("bent of a cube", x.bent(), 63);
        x.cut(0, 0);
        x.cut(0, 1);
        x.cut(0, 2);
        Due.is("without a lid", x.bent(), 62);
        Due.is("bent of a torus", Due.told("field;glue 0 north 0 south;glue 0 east 0 west").bent(), 0);
        Due.is("more than 4 about it", twelveAbout().bent(), 7);
        BentPlain y = Due.told("field;field;glue 1 north 1 east");
        Due.is("only the field that has it", y.bent(), 2);
        Due.is("the first corner of all", Due.told("field;field;glue 0 north 0 east").bent(), 1);
    }

    private static void parts() {
        Due.is("parts of nothing", new BentPlain().parts(), 0);
        BentPlain x = Due.told("field;field;field;field;glue 0 north 0 south");
        Due.is("parts()", x.parts(), 4);
        x.glue(3, 0, 1, 0);
        Due.is("parts()", x.parts(), 3);
        x.glue(1, 1, 3, 1);
        Due.is("parts()", x.parts(), 3);
        x.glue(3, 2, 0, 1);
        x.glue(2, 2, 1, 2);
        Due.is("parts()", x.parts(), 1);
        x.cut(2, 2);
        Due.is("parts()", x.parts(), 2);
    }
}
