/** Promises 31 to 35: how far it is. */
public final class DistanceTest {
    /** 0 to 3 by one rough field (1), or by three smooth ones (2, 4, 5); 6 lies apart. */
    private static BentPlain bypass() {
        return Due.told("field rough 3;field rough 9;field rough 1;field rough 2;field rough 1;field rough 1;field",
            "glue 0 east 1 west;glue 1 east 3 west;glue 0 north 2 south;glue 2 east 4 west",
            "glue 4 east 5 west;glue 5 south 3 north");
    }

    public static void main(String[] args) {
        far();
        smooth();
        turns();
        within();
        mends();
        Due.end();
    }

    private static void far() {
        BentPlain x = bypass();
        Due.is("far(0, 0)", x.far(0, 0), 0);
        Due.is("far(0, 1)", x.far(0, 1), 1);
        Due.is("far(0, 3)", x.far(0, 3), 2);
        Due.is("far(3, 2)", x.far(3, 2), 3);
        Due.is("far(0, 6)", x.far(0, 6), Due.NONE);
        Due.is("far(6, 0)", x.far(6, 0), Due.NONE);
        Due.is("far(0, 7)", x.far(0, 7), Due.BEYOND);
        Due.is("far(7, 0)", x.far(7, 0), Due.BEYOND);
        Due.is("far(-1, 0)", x.far(-1, 0), Due.BEYOND);
    }

    private static void smooth() {
        BentPlain x = bypass();
        Due.is("smooth(0, 0)", x.smooth(0, 0), 0);
        Due.is("smooth(0, 3): the longer way, the last field too", x.smooth(0, 3), 1 + 1 + 1 + 2);
        Due.is("smooth(3, 0): the other way", x.smooth(3, 0), 1 + 1 + 1 + 3);
        Due.is("smooth(3, 1)", x.smooth(3, 1), 9);
        Due.is("smooth(0, 6)", x.smooth(0, 6), Due.NONE);
        Due.is("smooth(0, 7)", x.smooth(0, 7), Due.BEYOND);
        Due.is("smooth(-1, 0)", x.smooth(-1, 0), Due.BEYOND);
    }

    private static void turns() {
        BentPlain x = bypass();
        Due.is("turns(0, 1, 3): straight on", x.turns(0, 1, 3), 0);
        Due.is("turns(0, 0, 3)", x.turns(0, 0, 3), 1);
        Due.is("turns(0, 3, 3)", x.turns(0, 3, 3), 2);
        Due.is("turns(0, 0, 5)", x.turns(0, 0, 5), 1);
        Due.is("turns(0, 1, 5): left in 3", x.turns(0, 1, 5), 1);
        Due.is("turns(0, 2, 2)", x.turns(0, 2, 2), 2);
        Due.is("turns(4, 2, 4): there", x.turns(4, 2, 4), 0);
        Due.is("turns(0, 0, 6)", x.turns(0, 0, 6), Due.NONE);
        Due.is("turns(7, 0, 0)", x.turns(7, 0, 0), Due.BEYOND);
        Due.is("turns(0, 4, 0)", x.turns(0, 4, 0), Due.BEYOND);
        Due.is("turns(0, -1, 0)", x.turns(0, -1, 0), Due.BEYOND);
        Due.is("turns(0, 0, 7)", x.turns(0, 0, 7), Due.BEYOND);
        BentPlain stairs = Due.told("field;field;field;field;field;glue 0 east 1 west;glue 1 north 2 south",
            "glue 2 east 3 west;glue 3 north 4 south");
        Due.is("a stair", stairs.turns(0, 1, 4), 3);
        Due.is("a stair from a wrong heading", stairs.turns(0, 2, 4), 4);
    }

    private static void within() {
        BentPlain x = bypass();
        Due.is("within(0, 0)", x.within(0, 0), 1);
        Due.is("within(0, 1)", x.within(0, 1), 3);
        Due.is("within(0, 2)", x.within(0, 2), 5);
        Due.is("within(0, 3)", x.within(0, 3), 6);
        Due.is("within(0, 16)", x.within(0, 16), 6);
        Due.is("within(6, 16)", x.within(6, 16), 1);
        Due.is("within(0, 17)", x.within(0, 17), Due.BEYOND);
        Due.is("within(0, -1)", x.within(0, -1), Due.BEYOND);
        Due.is("within(7, 1)", x.within(7, 1), Due.BEYOND);
    }

    /** Free are only the last side of 0 and the first of 1. */
    private static BentPlain nextSides() {
        return Due.told("field;field;field;glue 0 north 2 north;glue 0 east 2 east;glue 0 south 2 south",
            "glue 1 east 1 south;glue 1 west 2 west");
    }

    private static void mends() {
        BentPlain x = bypass();
        Due.is("mends(0, 0)", x.mends(0, 0), Due.NONE);
        Due.is("mends(0, 1): 1 already", x.mends(0, 1), Due.NONE);
        Due.is("mends(0, 3)", x.mends(0, 3), 64 * 2 + 13);
        Due.is("mends(3, 0)", x.mends(3, 0), 64 * 2 + 13);
        Due.is("mends(0, 6): it is NONE", x.mends(0, 6), 64 * 2 + 24);
        Due.is("nothing changes", x.far(0, 3), 2);
        Due.is("mends(7, 0)", x.mends(7, 0), Due.BEYOND);
        Due.is("mends(0, 7)", x.mends(0, 7), Due.BEYOND);
        Due.is("mends(-1, 0)", x.mends(-1, 0), Due.BEYOND);
        x.glue(0, 2, 6, 0);
        x.glue(0, 3, 6, 1);
        Due.is("mends(0, 3): 0 has no side left, 1 can't come nearer", x.mends(0, 3), Due.NONE);
        Due.is("mends(0, 5): least by a glue that isn't its own", x.mends(0, 5), 64 * 4 + 20);
        BentPlain two = Due.told("field;field");
        Due.is("the least sides of all", two.mends(0, 1), 4);
        two.glue(0, 0, 0, 1);
        two.glue(0, 2, 1, 1);
        two.field(0);
        Due.is("to a third", two.mends(0, 2), 64 * 3 + 8);
        two.glue(1, 0, 1, 2);
        two.glue(1, 3, 2, 3);
        two.field(0);
        two.glue(2, 0, 2, 1);
        two.glue(2, 2, 3, 2);
        two.cut(1, 1);
        Due.is("through a side and the next one", two.mends(0, 3), 64 * 2 + 12);
        two.glue(0, 2, 0, 3);
        Due.is("from 0 there is no side", two.mends(0, 3), Due.NONE);
        Due.is("a side and the next one", nextSides().mends(0, 1), 64 * 3 + 4);
        BentPlain closed = Due.told("field;field;glue 0 north 0 south;glue 0 east 0 west");
        Due.is("no side left on the one", closed.mends(0, 1), Due.NONE);
        Due.is("nor from the other", closed.mends(1, 0), Due.NONE);
    }
}
