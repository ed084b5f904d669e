/** Promises 1 to 7: a new object, fields and their glue. */
public final class FieldsTest {
    public static void main(String[] args) {
        newObject();
        field();
        of();
        rough();
        glue();
        cut();
        over();
        Due.end();
    }

    private static void newObject() {
        BentPlain x = new BentPlain();
        for (int what = 0; what <= 4; what++) {
            Due.is("new: count(" + what + ")", x.count(what), 0);
        }
        Due.is("new: tear()", x.tear(), 0);
        Due.is("new: wipe()", x.wipe(), 0);
        Due.is("new: status(-1)", x.status(-1), 0);
        Due.is("new: undo()", x.undo(), Due.NONE);
        for (int s = 0; s < 4; s++) {
            Due.is("new: lays(" + s + ")", x.lays(s), Due.MISSING);
        }
        Due.is("new: of(0, 0)", x.of(0, 0), Due.BEYOND);
        Due.is("new: its(0, 0)", x.its(0, 0), Due.BEYOND);
    }

    private static void field() {
        BentPlain x = new BentPlain();
        Due.is("field(-1)", x.field(-1), Due.BEYOND);
        Due.is("field(10)", x.field(10), Due.BEYOND);
        for (int f = 0; f < 16; f++) {
            Due.is("field " + f, x.field(f % 10), f);
        }
        Due.is("field for a 17th", x.field(0), Due.FULL);
        Due.is("field(10) for a 17th: BEYOND is asked first", x.field(10), Due.BEYOND);
        Due.is("count(0)", x.count(0), 16);
        for (int f = 0; f < 16; f++) {
            Due.is("of(" + f + ", 0)", x.of(f, 0), f % 10);
            Due.is("of(" + f + ", 1)", x.of(f, 1), 0);
        }
    }

    private static void of() {
        BentPlain x = Due.told("field rough 4;field;glue 0 north 1 west;glue 0 south 0 west",
            "boy at 0 east;cat at 1 south;walker at 0 north");
        Due.is("of(0, 0)", x.of(0, 0), 4);
        Due.is("of(0, 1)", x.of(0, 1), 1 | 4 | 8);
        Due.is("of(1, 1)", x.of(1, 1), 8);
        Due.is("of(0, 2)", x.of(0, 2), 1 | 4);
        Due.is("of(1, 2)", x.of(1, 2), 2);
        Due.is("of(2, 0)", x.of(2, 0), Due.BEYOND);
        Due.is("of(-1, 0)", x.of(-1, 0), Due.BEYOND);
        Due.is("of(0, -1)", x.of(0, -1), Due.BEYOND);
        Due.is("of(0, 3)", x.of(0, 3), Due.BEYOND);
    }

    private static void rough() {
        BentPlain x = Due.told("field rough 4;field");
        Due.is("rough(0, 9)", x.rough(0, 9), 4);
        Due.is("rough(0, 0)", x.rough(0, 0), 9);
        Due.is("rough(0, 10)", x.rough(0, 10), Due.BEYOND);
        Due.is("rough(0, -1)", x.rough(0, -1), Due.BEYOND);
        Due.is("rough(2, 1)", x.rough(2, 1), Due.BEYOND);
        Due.is("rough(-1, 1)", x.rough(-1, 1), Due.BEYOND);
        Due.is("of(0, 0) is 0", x.of(0, 0), 0);
        Due.is("of(1, 0) is 0", x.of(1, 0), 0);
    }

    private static void glue() {
        BentPlain x = Due.told("field;field");
        Due.is("glue(0, 0, 0, 0)", x.glue(0, 0, 0, 0), Due.BEYOND);
        Due.is("glue(2, 0, 0, 0)", x.glue(2, 0, 0, 0), Due.BEYOND);
        Due.is("glue(0, 0, 2, 0)", x.glue(0, 0, 2, 0), Due.BEYOND);
        Due.is("glue(0, 4, 1, 0)", x.glue(0, 4, 1, 0), Due.BEYOND);
        Due.is("glue(0, 0, 1, -1)", x.glue(0, 0, 1, -1), Due.BEYOND);
        Due.is("count(3)", x.count(3), 0);
        Due.is("glue(0, 0, 1, 0)", x.glue(0, 0, 1, 0), 1);
        Due.is("over(0, 0)", x.over(0, 0), 4);
        Due.is("over(1, 0)", x.over(1, 0), 0);
        Due.is("glue(0, 0, 1, 1): the first is glued", x.glue(0, 0, 1, 1), Due.STATE);
        Due.is("glue(1, 1, 0, 0): the second is glued", x.glue(1, 1, 0, 0), Due.STATE);
        Due.is("glue(0, 0, 0, 0): BEYOND is asked first", x.glue(0, 0, 0, 0), Due.BEYOND);
        Due.is("glue(0, 0, 2, 0): BEYOND is asked first", x.glue(0, 0, 2, 0), Due.BEYOND);
        Due.is("glue(0, 1, 0, 3): of its own field", x.glue(0, 1, 0, 3), 1);
        Due.is("count(3)", x.count(3), 4);
    }

    private static void cut() {
        BentPlain x = Due.told("field;field;glue 0 north 1 west;glue 0 south 0 west");
        Due.is("cut(0, 1)", x.cut(0, 1), Due.STATE);
        Due.is("cut(2, 0)", x.cut(2, 0), Due.BEYOND);
        Due.is("cut(0, 4)", x.cut(0, 4), Due.BEYOND);
        Due.is("cut(0, 0)", x.cut(0, 0), 7);
        Due.is("over(0, 0)", x.over(0, 0), Due.NONE);
        Due.is("over(1, 3): nor the other one", x.over(1, 3), Due.NONE);
        Due.is("cut(1, 3)", x.cut(1, 3), Due.STATE);
        Due.is("cut(0, 3)", x.cut(0, 3), 2);
        Due.is("count(3)", x.count(3), 0);
    }

    private static void over() {
        BentPlain x = Due.told("field;field;glue 0 north 1 west");
        Due.is("over(0, 0)", x.over(0, 0), 7);
        Due.is("over(1, 3)", x.over(1, 3), 0);
        Due.is("over(1, 0)", x.over(1, 0), Due.NONE);
        Due.is("over(2, 0)", x.over(2, 0), Due.BEYOND);
        Due.is("over(-1, 0)", x.over(-1, 0), Due.BEYOND);
        Due.is("over(0, -1)", x.over(0, -1), Due.BEYOND);
        Due.is("over(0, 4)", x.over(0, 4), Due.BEYOND);
    }
}
