/** Promises 36 to 38: the tape and the text. */
public final class TextTest {
    public static void main(String[] args) {
        feed();
        wipe();
        plain();
        tokens();
        faultsOfForm();
        faultsOfFields();
        faultsOfGlue();
        faultsOfWalkers();
        faultChangesNothing();
        Due.end();
    }

    private static void feed() {
        BentPlain x = new BentPlain();
        Due.is("feed(0, 0)", x.feed(0, 0), Due.BEYOND);
        Due.is("feed(0, 5)", x.feed(0, 5), Due.BEYOND);
        Due.is("feed(0, -1)", x.feed(0, -1), Due.BEYOND);
        Due.is("feed the highest first", x.feed(('f' << 24) | ('i' << 16) | ('e' << 8) | 'l', 4), 4);
        Due.is("feed the lowest alone", x.feed(('x' << 8) | 'd', 1), 5);
        Due.is("it is field", x.plain(), 1);
        Due.is("a byte above 127", x.feed(-1, 1), 1);
        Due.is("begins no token", x.plain(), -1);
        Due.is("feed(3 bytes)", x.feed(('c' << 16) | ('u' << 8) | 't', 3), 3);
        Due.is("cut, and an early end", x.plain(), -4);
        for (int i = 0; i < 39; i++) {
            x.feed(0x3b3b3b, 3);
        }
        Due.is("count(2)", x.count(2), 117);
        Due.is("feed(4) of 3 left", x.feed(0, 4), Due.FULL);
        Due.is("feed(5): BEYOND is asked first", x.feed(0, 5), Due.BEYOND);
        Due.is("feed(2)", x.feed(0, 2), 119);
        Due.is("feed(1)", x.feed(0, 1), 120);
        Due.is("feed(1)", x.feed(0, 1), Due.FULL);
        Due.is("count(2)", x.count(2), 120);
    }

    private static void wipe() {
        BentPlain x = new BentPlain();
        Due.is("wipe()", x.wipe(), 0);
        Due.feed(x, "field");
        Due.is("wipe()", x.wipe(), 5);
        Due.is("count(2)", x.count(2), 0);
        Due.is("nothing is left", x.plain(), -1);
        Due.is("count(0)", x.count(0), 0);
    }

    private static void plain() {
        BentPlain x = new BentPlain();
        Due.is("plain()", Due.plain(x, "field rough 7;glue 0 north 0 east;boy at 0 west;cut 0 east"), 4);
        Due.is("the tape is empty", x.count(2), 0);
        Due.is("rough", x.of(0, 0), 7);
        Due.is("glued no more", x.count(3), 0);
        Due.is("kind", x.its(0, 0), 3);
        Due.is("heading", x.its(0, 2), 3);
        Due.is("it comes to what there is", Due.plain(x, "field;glue 0 south 1 east"), 2);
        Due.is("over(1, 1)", x.over(1, 1), 2);
        Due.is("of(1, 0)", x.of(1, 0), 0);
        String[] kinds = {"walker", "surveyor", "soldier", "boy", "carter", "cat"};
        String[] sides = {"north", "east", "south", "west"};
        for (int kind = 0; kind < 6; kind++) {
            BentPlain y = Due.told("field");
            Due.is(kinds[kind], Due.plain(y, kinds[kind] + " at 0 " + sides[kind % 4]), 1);
            Due.is(kinds[kind], y.its(0, 0), kind);
            Due.is(sides[kind % 4], y.its(0, 2), kind % 4);
            Due.is("miles", y.its(0, 3), 0);
        }
    }

    private static void tokens() {
        BentPlain x = new BentPlain();
        Due.is("no blanks", Due.plain(x, "field rough9;field;glue0north1south"), 3);
        Due.is("over(0, 0)", x.over(0, 0), 6);
        Due.is("many blanks", Due.plain(x, "  field   rough   0003  ;  field  "), 2);
        Due.is("zeros ahead", x.of(2, 0), 3);
        Due.is("a word as long as can be", Due.plain(x, "fieldrough 3"), -1);
        Due.is("a word as long as can be", Due.plain(x, "glue 2 northeast"), -8);
        Due.is("a number as long as can be", Due.plain(x, "field rough 1 0"), -15);
        Due.is("1000", Due.plain(x, "field rough 1000"), -13);
        Due.is("beyond all ints", Due.plain(x, "field rough 4294967296000"), -13);
        Due.is("a letter above z", Due.plain(x, "field{"), -6);
        Due.is("a letter in capitals", Due.plain(x, "Field"), -1);
        Due.is("a tab is no blank", Due.plain(x, "field\t;field"), -6);
        Due.is("a number for an item", Due.plain(x, "field;3"), -7);
        Due.is("z is a letter", Due.plain(x, "fieldz"), -1);
        Due.is("9 is a digit", Due.plain(x, "field rough 99"), -13);
        Due.is("another first letter", Due.plain(x, "glue 2 forth"), -8);
        Due.is("another last letter", Due.plain(x, "glue 2 nortf"), -8);
        Due.is("a minus", Due.plain(x, "field rough -1"), -13);
        Due.is("count(0)", x.count(0), 4);
    }

    private static void faultsOfForm() {
        BentPlain x = Due.told("field;field;glue 0 north 1 north");
        Due.is("empty", Due.plain(x, ""), -1);
        Due.is("blanks", Due.plain(x, "   "), -4);
        Due.is("a sign", Due.plain(x, ";"), -1);
        Due.is("two signs", Due.plain(x, "field;;field"), -7);
        Due.is("a sign at the end", Due.plain(x, "field;"), -7);
        Due.is("a sign and blanks at the end", Due.plain(x, "field; "), -8);
        Due.is("no sign", Due.plain(x, "field field"), -7);
        Due.is("another word", Due.plain(x, "field;house"), -7);
        Due.is("a side for an item", Due.plain(x, "north"), -1);
        Due.is("a word of a prefix", Due.plain(x, "fiel"), -1);
        Due.is("a longer word", Due.plain(x, "fields"), -1);
        String[] wholes = {"glue 0 east 1 west", "cut 0 north", "cat at 1 south", "field rough 3"};
        for (String whole : wholes) {
            for (int n = 1; n < whole.length(); n++) {
                if (whole.charAt(n) == ' ' && !whole.substring(0, n).equals("field")) {
                    Due.is("too early: " + whole.substring(0, n), Due.plain(x, whole.substring(0, n)), -1 - n);
                    Due.is("too early, a blank", Due.plain(x, whole.substring(0, n) + " "), -2 - n);
                }
            }
        }
        Due.is("count(0)", x.count(0), 2);
        Due.is("count(1)", x.count(1), 0);
        Due.is("no finding", x.status(-1), 0);
    }

    private static void faultsOfFields() {
        BentPlain x = Due.told("field");
        Due.is("rough 9", Due.plain(x, "field rough 9"), 1);
        Due.is("rough 10", Due.plain(x, "field rough 10"), -13);
        Due.is("rough rough", Due.plain(x, "field rough rough"), -13);
        Due.is("rough ;", Due.plain(x, "field rough ;"), -13);
        Due.is("field 3", Due.plain(x, "field 3"), -7);
        Due.is("14 more", Due.plain(x, "field;field;field;field;field;field;field;field;field;field;field;field;field;field"), 14);
        Due.is("count(0)", x.count(0), 16);
        Due.is("a number of two digits", Due.plain(x, "glue 12 north 15 east"), 1);
        Due.is("over(12, 0)", x.over(12, 0), 61);
        Due.is("no field 16", Due.plain(x, "glue 16 south"), -6);
        Due.is("a 17th", Due.plain(x, "cat at 0 west;field rough 10"), -15);
        Due.is("count(1)", x.count(1), 0);
    }

    private static void faultsOfGlue() {
        BentPlain x = new BentPlain();
        Due.is("no field", Due.plain(x, "glue 0 north 0 south"), -6);
        Due.is("a field there by then", Due.plain(x, "field;glue 0 north 1 south;field"), -20);
        Due.is("count(0)", x.count(0), 0);
        Due.is("fields", Due.plain(x, "field;field;glue 0 north 1 south"), 3);
        Due.is("the first is glued", Due.plain(x, "glue 0 north 1 north"), -8);
        Due.is("the second is glued", Due.plain(x, "glue 0 east 1 south"), -15);
        Due.is("one and the same", Due.plain(x, "glue 0 east 0 east"), -15);
        Due.is("glued by an item ahead", Due.plain(x, "glue 0 east 1 west;glue 0 east 0 west"), -27);
        Due.is("a word for a number", Due.plain(x, "glue north"), -6);
        Due.is("a number for a side", Due.plain(x, "glue 0 0"), -8);
        Due.is("a kind for a side", Due.plain(x, "glue 0 cat"), -8);
        Due.is("cut of one that isn't", Due.plain(x, "cut 0 east"), -7);
        Due.is("cut of no field", Due.plain(x, "cut 2 east"), -5);
        Due.is("cut twice", Due.plain(x, "cut 0 north;cut 1 south"), -19);
        Due.is("count(3)", x.count(3), 2);
        Due.is("cut and glue", Due.plain(x, "cut 1 south;glue 0 north 0 south"), 2);
        Due.is("over(0, 0)", x.over(0, 0), 2);
        Due.is("over(1, 2)", x.over(1, 2), Due.NONE);
    }

    private static void faultsOfWalkers() {
        BentPlain x = new BentPlain();
        Due.is("no field", Due.plain(x, "cat at 0 north"), -8);
        x.field(0);
        Due.is("no at", Due.plain(x, "cat 0 north"), -5);
        Due.is("no number", Due.plain(x, "cat at north"), -8);
        Due.is("no side", Due.plain(x, "cat at 0 up"), -10);
        Due.is("six", Due.plain(x, "cat at 0 north;cat at 0 north;cat at 0 north;cat at 0 north;cat at 0 north;cat at 0 north"), 6);
        Due.is("a 7th: its own place", Due.plain(x, "field;cat at 9"), -7);
        Due.is("a 7th of no kind", Due.plain(x, "dog at 9"), -1);
        Due.is("count(1)", x.count(1), 6);
    }

    private static void faultChangesNothing() {
        BentPlain x = Due.told("field rough 2;field;glue 0 north 1 south;boy at 0 north");
        x.steps(5);
        x.image();
        long miles = x.count(4);
        Due.is("a fault at the end", Due.plain(x, "field;cut 0 north;glue 0 north 2 north;cat at 2 west;!"), -54);
        Due.is("count(0)", x.count(0), 2);
        Due.is("count(1)", x.count(1), 1);
        Due.is("count(2)", x.count(2), 0);
        Due.is("count(3)", x.count(3), 2);
        Due.is("count(4)", x.count(4), miles);
        Due.is("over(0, 0)", x.over(0, 0), 6);
        Due.is("the image stays", x.undo(), 2);
        Due.is("a new field is not glued", x.field(0), 2);
        Due.is("of(2, 1)", x.of(2, 1), 0);
    }
}
