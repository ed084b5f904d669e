/** Promises 8 to 19: walkers, their kinds and their steps. */
public final class WalkersTest {
    /** A ring of two fields, north to south: 0 of rough 0, 1 of some rough. */
    private static BentPlain ring(int rough) {
        return Due.told("field;field rough " + rough + ";glue 0 north 1 south;glue 1 north 0 south");
    }

    public static void main(String[] args) {
        walker();
        its();
        pays();
        turnsOnComing();
        turnsAtBump();
        place();
        turn();
        as();
        step();
        steps();
        on();
        when();
        back();
        meet();
        spares();
        Due.end();
    }

    private static void walker() {
        BentPlain x = new BentPlain();
        Due.is("walker without fields", x.walker(0, 0, 0), Due.BEYOND);
        x.field(0);
        Due.is("walker(-1, 0, 0)", x.walker(-1, 0, 0), Due.BEYOND);
        Due.is("walker(6, 0, 0)", x.walker(6, 0, 0), Due.BEYOND);
        Due.is("walker(0, 1, 0)", x.walker(0, 1, 0), Due.BEYOND);
        Due.is("walker(0, 0, 4)", x.walker(0, 0, 4), Due.BEYOND);
        for (int w = 0; w < 6; w++) {
            Due.is("walker " + w, x.walker(5 - w, 0, w % 4), w);
        }
        Due.is("a 7th", x.walker(0, 0, 0), Due.FULL);
        Due.is("a 7th of no kind: BEYOND is asked first", x.walker(6, 0, 0), Due.BEYOND);
        Due.is("count(1)", x.count(1), 6);
    }

    private static void its() {
        BentPlain x = Due.told("field rough 7;field;carter at 0 west");
        Due.is("its(0, 0)", x.its(0, 0), 4);
        Due.is("its(0, 1)", x.its(0, 1), 0);
        Due.is("its(0, 2)", x.its(0, 2), 3);
        Due.is("its(0, 3)", x.its(0, 3), 0);
        Due.is("its(0, 4)", x.its(0, 4), 0);
        Due.is("its(0, 5)", x.its(0, 5), 1 + 2 + 7);
        x.step(0);
        Due.is("its(0, 4) after a bump", x.its(0, 4), 1);
        Due.is("its(0, 2) after a bump", x.its(0, 2), 0);
        Due.is("its(1, 0)", x.its(1, 0), Due.BEYOND);
        Due.is("its(-1, 0)", x.its(-1, 0), Due.BEYOND);
        Due.is("its(0, -1)", x.its(0, -1), Due.BEYOND);
        Due.is("its(0, 6)", x.its(0, 6), Due.BEYOND);
    }

    private static void pays() {
        BentPlain x = Due.told("field;walker at 0 north");
        for (int r = 0; r <= 9; r++) {
            int[] due = {1, 1, 1 + r / 3, r == 9 ? 2 : 1, 1 + r / 3 + r, 1};
            x.rough(0, r);
            for (int kind = 0; kind < 6; kind++) {
                x.turn(0, kind);
                Due.is("kind " + kind + " pays for rough " + r, x.its(0, 5), due[kind]);
            }
        }
    }

    private static void turnsOnComing() {
        int[][] headings = {
            // rough 4, 5, 9: the heading after one step north from 0 to 1, with 0 miles before
            {0, 0, 0}, {0, 0, 0}, {0, 1, 1}, {0, 0, 0}, {0, 1, 1}, {1, 1, 1}};
        int[] roughs = {4, 5, 9};
        for (int kind = 0; kind < 6; kind++) {
            for (int i = 0; i < roughs.length; i++) {
                BentPlain x = ring(roughs[i]);
                x.walker(kind, 0, 0);
                Due.is("kind " + kind + " comes to", x.step(0), 1);
                Due.is("kind " + kind + " turns on rough " + roughs[i], x.its(0, 2), headings[kind][i]);
            }
        }
        BentPlain x = ring(0);
        x.walker(3, 0, 0);
        x.walker(5, 0, 0);
        x.steps(2);
        Due.is("a boy of 2 miles goes on", x.its(0, 2), 0);
        Due.is("a cat of 1 mile has turned and bumped twice as a surveyor", x.its(1, 2), 3);
        x.step(0);
        Due.is("a boy of 3 miles turns left", x.its(0, 2), 3);
        x.place(1, 0, 0);
        x.step(1);
        Due.is("a cat of 2 miles goes on", x.its(1, 2), 0);
        BentPlain y = ring(9);
        y.walker(3, 0, 0);
        y.step(0);
        Due.is("a boy pays 2 for rough 9", y.its(0, 3), 2);
        y.step(0);
        Due.is("3 miles, as they are when he has paid", y.its(0, 2), 3);
    }

    private static void turnsAtBump() {
        int[] quarters = {2, 3, 2, 3, 5, 6};
        for (int kind = 0; kind < 6; kind++) {
            BentPlain x = Due.told("field rough 9");
            x.walker(kind, 0, 1);
            Due.is("kind " + kind + " stays", x.step(0), 0);
            Due.is("kind " + kind + " turns at a bump", x.its(0, 2), (1 + quarters[kind]) % 4);
            Due.is("kind " + kind + " has a bump", x.its(0, 4), 1);
            Due.is("kind " + kind + " has no miles", x.its(0, 3), 0);
        }
    }

    private static void place() {
        BentPlain x = ring(0);
        x.walker(0, 0, 1);
        x.step(0);
        x.place(0, 0, 0);
        x.step(0);
        Due.is("place(0, 0, 2)", x.place(0, 0, 2), 4);
        Due.is("miles stay", x.its(0, 3), 1);
        Due.is("bumps stay", x.its(0, 4), 1);
        Due.is("field", x.its(0, 1), 0);
        Due.is("heading", x.its(0, 2), 2);
        Due.is("place(1, 0, 0)", x.place(1, 0, 0), Due.BEYOND);
        Due.is("place(0, 2, 0)", x.place(0, 2, 0), Due.BEYOND);
        Due.is("place(0, 0, 4)", x.place(0, 0, 4), Due.BEYOND);
        Due.is("place(0, 0, -1)", x.place(0, 0, -1), Due.BEYOND);
        Due.is("still there", x.place(0, 1, 3), 2);
    }

    private static void turn() {
        BentPlain x = Due.told("field;boy at 0 north");
        Due.is("turn(0, 4)", x.turn(0, 4), 3);
        Due.is("turn(0, 4) again", x.turn(0, 4), 4);
        Due.is("turn(0, 6)", x.turn(0, 6), Due.BEYOND);
        Due.is("turn(0, -1)", x.turn(0, -1), Due.BEYOND);
        Due.is("turn(1, 0)", x.turn(1, 0), Due.BEYOND);
        Due.is("its(0, 0)", x.its(0, 0), 4);
    }

    private static void as() {
        boolean[][] under = {
            {true, false, false, false, false, false},
            {true, true, false, false, false, false},
            {true, false, true, false, false, false},
            {true, true, false, true, false, false},
            {true, false, true, false, true, false},
            {true, true, false, false, false, true}};
        BentPlain x = ring(0);
        x.walker(0, 0, 0);
        x.steps(7);
        for (int kind = 0; kind < 6; kind++) {
            x.turn(0, kind);
            for (int other = 0; other < 6; other++) {
                Due.is(kind + " as " + other, x.as(0, other), under[kind][other] ? 7 : Due.KIND);
            }
        }
        Due.is("as(0, 6)", x.as(0, 6), Due.BEYOND);
        Due.is("as(0, -1)", x.as(0, -1), Due.BEYOND);
        Due.is("as(1, 0)", x.as(1, 0), Due.BEYOND);
    }

    private static void step() {
        BentPlain x = Due.told("field;field;field;glue 0 east 1 south;glue 1 north 2 north;walker at 0 east");
        Due.is("step(0)", x.step(0), 1);
        Due.is("heading opposite to the side by which it came", x.its(0, 2), 0);
        Due.is("step(0)", x.step(0), 2);
        Due.is("heading", x.its(0, 2), 2);
        Due.is("a bump", x.step(0), 2);
        Due.is("heading", x.its(0, 2), 0);
        Due.is("back", x.step(0), 1);
        Due.is("heading", x.its(0, 2), 2);
        Due.is("step(1)", x.step(1), Due.BEYOND);
        Due.is("step(-1)", x.step(-1), Due.BEYOND);
    }

    private static void steps() {
        BentPlain x = ring(6);
        Due.is("steps(5) of none", x.steps(5), 0);
        x.walker(0, 0, 0);
        x.walker(2, 1, 1);
        Due.is("steps(0)", x.steps(0), Due.BEYOND);
        Due.is("steps(101)", x.steps(101), Due.BEYOND);
        Due.is("steps(-1)", x.steps(-1), Due.BEYOND);
        Due.is("steps(100)", x.steps(100), 100);
        Due.is("bumps of the soldier", x.its(1, 4), 100);
        Due.is("steps(1)", x.steps(1), 101);
    }

    private static void on() {
        BentPlain x = ring(6);
        x.walker(4, 1, 2);
        Due.is("on(0, 0, 0)", x.on(0, 0, 0), 1);
        Due.is("on(0, 0, 1)", x.on(0, 0, 1), 2);
        Due.is("on(0, 1, 0)", x.on(0, 1, 0), 0);
        Due.is("on(0, 2, 1): turned on rough 6", x.on(0, 2, 1), 3);
        Due.is("on(0, 2, 2)", x.on(0, 2, 2), 1 + 9);
        Due.is("on(0, 3, 3)", x.on(0, 3, 3), 1);
        Due.is("nothing changes", x.its(0, 3), 0);
        Due.is("nothing changes", x.its(0, 1), 1);
        Due.is("on(0, 100, 0)", x.on(0, 100, 0) >= 0 ? 1 : 0, 1);
        Due.is("on(0, 101, 0)", x.on(0, 101, 0), Due.BEYOND);
        Due.is("on(0, -1, 0)", x.on(0, -1, 0), Due.BEYOND);
        Due.is("on(0, 1, 4)", x.on(0, 1, 4), Due.BEYOND);
        Due.is("on(0, 1, -1)", x.on(0, 1, -1), Due.BEYOND);
        Due.is("on(1, 1, 0)", x.on(1, 1, 0), Due.BEYOND);
    }

    private static void when() {
        BentPlain x = Due.told("field;field;field;field;glue 0 north 1 south;glue 1 north 2 south",
            "walker at 0 south");
        Due.is("when(0, 0)", x.when(0, 0), 0);
        Due.is("when(0, 1)", x.when(0, 1), 2);
        Due.is("when(0, 2)", x.when(0, 2), 3);
        Due.is("when(0, 3)", x.when(0, 3), Due.NONE);
        Due.is("when(0, 4)", x.when(0, 4), Due.BEYOND);
        Due.is("when(1, 0)", x.when(1, 0), Due.BEYOND);
        Due.is("nothing changes", x.its(0, 4), 0);
        lastWhen();
    }

    /** Two ways of a boy, found by trying, that come to a field after 100 and after 101 steps. */
    private static void lastWhen() {
        BentPlain x = Due.glued("2521597475364468", "41-33 7-38 35-56 28-19 10-50 60-22 13-47 55-37 54-39 63-62 11-45"
            + " 58-57 53-49 0-27 25-9 42-14 2-4 44-24 29-52 6-40 12-61 26-32 48-18 43-17 1-3 46-30 16-59 51-15 31-8 5-36 21-20");
        x.walker(3, 10, 0);
        Due.is("100 steps", x.when(0, 5), 100);
        BentPlain y = Due.glued("9859422170161535", "50-34 47-43 12-1 31-57 19-60 51-2 17-29 42-45 63-55 49-53 58-27 15-24"
            + " 5-6 52-30 46-20 8-25 44-41 54-38 7-56 21-23 59-26 37-39 16-35 40-48 18-13 28-36 22-3 4-33 0-32 61-14 11-10 62-9");
        y.walker(3, 0, 1);
        Due.is("101 steps", y.when(0, 9), Due.NONE);
        y.step(0);
        Due.is("a step later", y.when(0, 9), 100);
    }

    private static void back() {
        BentPlain x = ring(0);
        x.walker(0, 0, 0);
        x.walker(1, 0, 1);
        x.walker(0, 0, 1);
        Due.is("back(0) round the ring", x.back(0), 2);
        Due.is("back(1) of a surveyor who bumps east and goes round for ever", x.back(1), Due.NONE);
        Due.is("back(2) of a walker who bumps to and fro", x.back(2), 2);
        Due.is("back(3)", x.back(3), Due.BEYOND);
        Due.is("back(-1)", x.back(-1), Due.BEYOND);
        Due.is("nothing changes", x.its(2, 4), 0);
    }

    private static void meet() {
        BentPlain x = Due.told("field;field;field;glue 0 north 1 south;glue 1 north 2 south",
            "walker at 0 north;walker at 2 south;walker at 2 east;walker at 0 east");
        Due.is("meet(0, 1)", x.meet(0, 1), 1);
        Due.is("meet(0, 2)", x.meet(0, 2), 2);
        Due.is("meet(1, 2)", x.meet(1, 2), 0);
        Due.is("meet(2, 3)", x.meet(2, 3), Due.NONE);
        Due.is("meet(0, 0)", x.meet(0, 0), Due.BEYOND);
        Due.is("meet(0, 4)", x.meet(0, 4), Due.BEYOND);
        Due.is("meet(4, 0)", x.meet(4, 0), Due.BEYOND);
        Due.is("nothing changes", x.count(4), 0);
        lastMeet();
    }

    /**
     * A ring of 11 fields (0 to 10) to the east, and a dead end of 6 (0, 11 to 15) to the north:
     * one is on 0 every 11 steps, the other, to and fro, for two of every 12.
     */
    private static void lastMeet() {
        BentPlain x = new BentPlain();
        for (int f = 0; f < 16; f++) {
            x.field(0);
        }
        for (int f = 0; f <= 10; f++) {
            x.glue(f, 1, (f + 1) % 11, 3);
        }
        x.glue(0, 0, 11, 2);
        for (int f = 11; f < 15; f++) {
            x.glue(f, 0, f + 1, 2);
        }
        x.walker(0, 10, 1);
        x.walker(0, 13, 2);
        Due.is("on 0 in 1 step", x.when(0, 0), 1);
        Due.is("on 0 in 3 steps", x.when(1, 0), 3);
        Due.is("meet in 100", x.meet(0, 1), 100);
        Due.is("meet in 100", x.meet(1, 0), 100);
        x.place(0, 9, 1);
        x.place(1, 14, 2);
        Due.is("meet in 101", x.meet(0, 1), Due.NONE);
    }

    private static void spares() {
        BentPlain x = ring(3);
        Due.is("spares(0) of none", x.spares(0), Due.NONE);
        Due.is("spares(101) of none: BEYOND is asked first", x.spares(101), Due.BEYOND);
        x.walker(4, 0, 0);
        x.walker(0, 0, 0);
        x.walker(0, 0, 0);
        x.walker(0, 0, 1);
        Due.is("spares(0): of several the least", x.spares(0), 0);
        Due.is("spares(1): who bumps", x.spares(1), 3);
        x.place(3, 0, 0);
        Due.is("spares(1)", x.spares(1), 1);
        Due.is("spares(100)", x.spares(100), 1);
        Due.is("spares(-1)", x.spares(-1), Due.BEYOND);
        Due.is("nothing changes", x.count(4), 0);
    }
}
