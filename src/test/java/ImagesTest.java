/** Promises 45 to 49: images, counts and status. */
public final class ImagesTest {
    public static void main(String[] args) {
        image();
        undoRestoresAll();
        undoLeavesTheRest();
        tear();
        count();
        status();
        findingsChangeNothing();
        Due.end();
    }

    private static void image() {
        BentPlain x = new BentPlain();
        Due.is("undo()", x.undo(), Due.NONE);
        Due.is("image() of nothing", x.image(), 1);
        x.field(3);
        Due.is("undo()", x.undo(), 0);
        x.field(3);
        Due.is("image()", x.image(), 1);
        x.field(4);
        Due.is("image()", x.image(), 1);
        x.field(5);
        Due.is("what was kept latest", x.undo(), 2);
        x.field(5);
        Due.is("which stays", x.undo(), 2);
    }

    private static void undoRestoresAll() {
        BentPlain x = Due.told("field rough 2;field;glue 0 north 1 south;glue 1 north 1 east;boy at 0 north");
        x.steps(7);
        x.image();
        int[] was = told(x);
        x.rough(0, 8);
        x.cut(0, 0);
        x.glue(0, 1, 0, 2);
        x.turn(0, 5);
        x.place(0, 1, 2);
        x.steps(9);
        x.field(1);
        x.walker(1, 2, 2);
        Due.is("undo()", x.undo(), 2);
        int[] is = told(x);
        for (int i = 0; i < was.length; i++) {
            Due.is("told " + i, is[i], was[i]);
        }
        Due.is("a new field has no glue of old", x.field(0), 2);
        Due.is("of(2, 1)", x.of(2, 1), 0);
        Due.is("a new walker has no miles of old", x.walker(0, 0, 0), 1);
        Due.is("its(1, 3)", x.its(1, 3), 0);
        Due.is("its(1, 4)", x.its(1, 4), 0);
    }

    private static int[] told(BentPlain x) {
        return new int[] {x.count(0), x.count(1), x.count(3), x.count(4), x.of(0, 0), x.of(1, 0), x.of(0, 1), x.of(1, 1),
            x.over(0, 0), x.over(1, 2), x.over(1, 0), x.its(0, 0), x.its(0, 1), x.its(0, 2), x.its(0, 3), x.its(0, 4)};
    }

    private static void undoLeavesTheRest() {
        BentPlain x = Due.told("field");
        x.sheet(0, 8, 2);
        x.image();
        x.write(0, 1, 7);
        Due.feed(x, "field");
        x.step(9);
        x.undo();
        Due.is("the tape stays", x.count(2), 5);
        Due.is("sheets stay", x.write(0, 1, 7), 7);
        Due.is("status stays", x.status(0), 1);
    }

    private static void tear() {
        BentPlain x = new BentPlain();
        Due.is("tear()", x.tear(), 0);
        x.image();
        Due.is("tear()", x.tear(), 1);
        Due.is("tear()", x.tear(), 0);
        Due.is("undo()", x.undo(), Due.NONE);
        x.image();
        Due.is("undo()", x.undo(), 0);
    }

    private static void count() {
        BentPlain x = Due.told("field rough 9;field;glue 0 north 1 south;glue 1 north 0 south;glue 0 east 0 west",
            "carter at 1 north;walker at 0 north");
        x.steps(1);
        Due.feed(x, "abc");
        Due.is("count(0)", x.count(0), 2);
        Due.is("count(1)", x.count(1), 2);
        Due.is("count(2)", x.count(2), 3);
        Due.is("count(3)", x.count(3), 6);
        Due.is("count(4)", x.count(4), 1 + 3 + 9 + 1);
        Due.is("count(5)", x.count(5), Due.BEYOND);
        Due.is("count(-1)", x.count(-1), Due.BEYOND);
    }

    private static void status() {
        BentPlain x = Due.told("field;cat at 0 north");
        x.step(3);
        x.as(0, 2);
        x.cut(0, 0);
        x.cut(0, 1);
        x.lays(0);
        x.sheet(0, 8, -1);
        x.over(0, 0);
        x.over(0, 1);
        x.over(0, 2);
        x.image();
        Due.feed(x, "field;field;field;field;field;field;field;field;field;field;field;field;field;field;field");
        Due.is("15 fields more", x.plain(), 15);
        x.field(0);
        x.undo();
        int[] due = {1, 1, 1, 3, 2, 1, 1};
        for (int which = 0; which <= 6; which++) {
            Due.is("status(" + which + ")", x.status(which), due[which]);
        }
        Due.is("status(-1)", x.status(-1), 10);
        Due.is("status(7)", x.status(7), Due.BEYOND);
        Due.is("counted from then on", x.status(0), 2);
        Due.is("status(-2)", x.status(-2), Due.BEYOND);
        Due.is("status(-1)", x.status(-1), 12);
    }

    private static void findingsChangeNothing() {
        BentPlain x = Due.told("field rough 3;walker at 0 north");
        x.rough(0, 10);
        x.glue(0, 0, 0, 0);
        x.place(0, 0, 7);
        x.turn(0, 9);
        x.steps(101);
        x.feed(0, 9);
        Due.is("of(0, 0)", x.of(0, 0), 3);
        Due.is("count(3)", x.count(3), 0);
        Due.is("its(0, 2)", x.its(0, 2), 0);
        Due.is("its(0, 0)", x.its(0, 0), 0);
        Due.is("its(0, 4)", x.its(0, 4), 0);
        Due.is("count(2)", x.count(2), 0);
        Due.is("status(-1)", x.status(-1), 6);
    }
}
