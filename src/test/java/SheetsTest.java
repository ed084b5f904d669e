/** Promises 39 to 44: sheets. */
public final class SheetsTest {
    public static void main(String[] args) {
        sheet();
        write();
        copy();
        lays();
        book();
        read();
        Due.end();
    }

    private static void sheet() {
        BentPlain x = new BentPlain();
        Due.is("sheet(-1, 8, 1)", x.sheet(-1, 8, 1), Due.BEYOND);
        Due.is("sheet(4, 8, 1)", x.sheet(4, 8, 1), Due.BEYOND);
        Due.is("sheet(0, 32, 1)", x.sheet(0, 32, 1), Due.BEYOND);
        Due.is("sheet(0, -8, -1): bits are asked first", x.sheet(0, -8, -1), Due.BEYOND);
        Due.is("sheet(0, 8, -1)", x.sheet(0, 8, -1), Due.SIZE);
        Due.is("sheet(0, 0, -1)", x.sheet(0, 0, -1), Due.SIZE);
        Due.is("sheet(0, 8, 41)", x.sheet(0, 8, 41), Due.BEYOND);
        Due.is("sheet(0, 0, 41)", x.sheet(0, 0, 41), Due.BEYOND);
        Due.is("sheet(0, 0, 40)", x.sheet(0, 0, 40), 0);
        Due.is("sheet(0, 16, 40)", x.sheet(0, 16, 40), 40);
        Due.is("write(0, 39, 5)", x.write(0, 39, 5), 0);
        Due.is("sheet(0, 64, 40): all 0", x.sheet(0, 64, 40), 40);
        Due.is("write(0, 39, 5)", x.write(0, 39, 5), 0);
        Due.is("a finding changes nothing", x.sheet(0, 8, -1), Due.SIZE);
        Due.is("write(0, 39, 5)", x.write(0, 39, 5), 5);
        Due.is("sheet(0, 64, 0)", x.sheet(0, 64, 0), 0);
        Due.is("a sheet of none isn't missing", x.write(0, 0, 1), Due.BEYOND);
        Due.is("sheet(0, 0, 3)", x.sheet(0, 0, 3), 0);
        Due.is("it is missing", x.write(0, 0, 1), Due.MISSING);
    }

    private static void write() {
        BentPlain x = new BentPlain();
        x.sheet(1, 8, 2);
        x.sheet(2, 16, 2);
        x.sheet(3, 64, 2);
        long v = 0x123456789abcdef0L;
        for (int s = 1; s <= 3; s++) {
            Due.is("write(" + s + ", 1, v)", x.write(s, 1, v), 0);
        }
        Due.is("8 bits", x.write(1, 1, 127), (byte) v);
        Due.is("16 bits", x.write(2, 1, 32767), (short) v);
        Due.is("64 bits", x.write(3, 1, Long.MIN_VALUE), v);
        Due.is("8 bits", x.write(1, 1, 128), 127);
        Due.is("8 bits", x.write(1, 1, 256), -128);
        Due.is("8 bits", x.write(1, 1, 0), 0);
        Due.is("16 bits", x.write(2, 1, 65536), 32767);
        Due.is("16 bits", x.write(2, 1, 0), 0);
        Due.is("64 bits", x.write(3, 1, -1000000001L), Long.MIN_VALUE);
        Due.is("no finding, only a number", x.write(3, 1, 0), -1000000001L);
        Due.is("status(-1)", x.status(-1), 0);
        Due.is("write(-1, 0, 0)", x.write(-1, 0, 0), Due.BEYOND);
        Due.is("write(4, 0, 0)", x.write(4, 0, 0), Due.BEYOND);
        Due.is("write(0, 9, 0): MISSING is asked first", x.write(0, 9, 0), Due.MISSING);
        Due.is("write(1, 2, 0)", x.write(1, 2, 0), Due.BEYOND);
        Due.is("write(1, -1, 0)", x.write(1, -1, 0), Due.BEYOND);
        Due.is("the other number", x.write(3, 0, 0), 0);
    }

    private static void copy() {
        BentPlain x = new BentPlain();
        x.sheet(0, 8, 5);
        x.sheet(1, 8, 3);
        x.sheet(2, 16, 3);
        for (int i = 0; i < 5; i++) {
            x.write(0, i, i + 1);
        }
        Due.is("copy(0, 0, 0, 1, 4): as they all were", x.copy(0, 0, 0, 1, 4), 4);
        int[] due = {1, 1, 2, 3, 4};
        for (int i = 0; i < 5; i++) {
            Due.is("number " + i, x.write(0, i, due[i]), due[i]);
        }
        Due.is("copy(0, 3, 1, 1, 2)", x.copy(0, 3, 1, 1, 2), 2);
        Due.is("number 0", x.write(1, 0, 0), 0);
        Due.is("number 1", x.write(1, 1, 0), 3);
        Due.is("number 2", x.write(1, 2, 0), 4);
        Due.is("copy(1, 0, 0, 1, 3): all of it", x.copy(1, 0, 0, 1, 3), 3);
        Due.is("copy(0, 5, 1, 3, 0)", x.copy(0, 5, 1, 3, 0), 0);
        Due.is("copy(0, 6, 1, 0, 0)", x.copy(0, 6, 1, 0, 0), Due.BEYOND);
        Due.is("copy(0, 2, 1, 0, 4): the one has not so many", x.copy(0, 2, 1, 0, 4), Due.BEYOND);
        Due.is("copy(0, 0, 1, 0, 4): the other", x.copy(0, 0, 1, 0, 4), Due.BEYOND);
        Due.is("copy(0, 0, 1, 1, 3)", x.copy(0, 0, 1, 1, 3), Due.BEYOND);
        Due.is("copy(0, -1, 1, 0, 1)", x.copy(0, -1, 1, 0, 1), Due.BEYOND);
        Due.is("copy(0, 0, 1, -1, 1)", x.copy(0, 0, 1, -1, 1), Due.BEYOND);
        Due.is("copy(0, 0, 1, 0, -1)", x.copy(0, 0, 1, 0, -1), Due.BEYOND);
        int most = Integer.MAX_VALUE;
        Due.is("copy of sums beyond ints", x.copy(0, most, 1, most, most), Due.BEYOND);
        Due.is("copy of sums beyond ints", x.copy(0, 1, 1, 1, most), Due.BEYOND);
        Due.is("copy of sums beyond ints", x.copy(0, most, 1, 0, 1), Due.BEYOND);
        Due.is("copy(0, 9, 2, 9, 9): KIND is asked first", x.copy(0, 9, 2, 9, 9), Due.KIND);
        Due.is("copy(0, 0, 3, 0, 0)", x.copy(0, 0, 3, 0, 0), Due.MISSING);
        Due.is("copy(3, 0, 0, 0, 0)", x.copy(3, 0, 0, 0, 0), Due.MISSING);
        Due.is("copy(3, 0, 4, 0, 0): BEYOND is asked first", x.copy(3, 0, 4, 0, 0), Due.BEYOND);
        Due.is("copy(-1, 0, 0, 0, 0)", x.copy(-1, 0, 0, 0, 0), Due.BEYOND);
    }

    private static void lays() {
        BentPlain x = Due.told("field;field rough 5;field rough 6;field");
        x.sheet(0, 64, 6);
        long[] numbers = {9, 10, -1, 0, 3, 3};
        for (int i = 0; i < 6; i++) {
            x.write(0, i, numbers[i]);
        }
        Due.is("lays(0)", x.lays(0), 2);
        int[] due = {9, 5, 6, 0};
        for (int f = 0; f < 4; f++) {
            Due.is("of(" + f + ", 0)", x.of(f, 0), due[f]);
        }
        x.write(0, 1, 1L << 32);
        Due.is("lays(0): a number whose lowest 32 bits are 0", x.lays(0), 2);
        x.sheet(1, 16, 1);
        x.write(1, 0, 4);
        Due.is("a sheet of fewer", x.lays(1), 1);
        Due.is("of(0, 0)", x.of(0, 0), 4);
        Due.is("of(1, 0)", x.of(1, 0), 5);
        Due.is("lays(2)", x.lays(2), Due.MISSING);
        Due.is("lays(4)", x.lays(4), Due.BEYOND);
        Due.is("lays(-1)", x.lays(-1), Due.BEYOND);
    }

    private static void book() {
        BentPlain x = Due.told("field;field;field;glue 0 north 1 south;glue 1 north 2 south;walker at 0 north");
        x.sheet(0, 8, 7);
        Due.is("book(0, 0)", x.book(0, 0), 7);
        int[] due = {0, 1, 2, 2, 1, 0, 0};
        for (int i = 0; i < 7; i++) {
            Due.is("number " + i, x.write(0, i, 0), due[i]);
        }
        Due.is("nothing changes", x.its(0, 3), 0);
        x.walker(3, 2, 1);
        x.book(0, 1);
        int[] boys = {2, 2, 2, 2, 1, 0, 0};
        for (int i = 0; i < 7; i++) {
            Due.is("number " + i, x.write(0, i, 0), boys[i]);
        }
        x.sheet(1, 64, 0);
        Due.is("a book of none", x.book(1, 0), 0);
        Due.is("book(4, 0)", x.book(4, 0), Due.BEYOND);
        Due.is("book(-1, 0)", x.book(-1, 0), Due.BEYOND);
        Due.is("book(2, 9): MISSING is asked first", x.book(2, 9), Due.MISSING);
        Due.is("book(0, 2)", x.book(0, 2), Due.BEYOND);
        Due.is("book(0, -1)", x.book(0, -1), Due.BEYOND);
    }

    private static void read() {
        BentPlain x = Due.told("field;field;field;glue 0 north 1 south;glue 1 north 2 south;walker at 0 north");
        x.sheet(0, 64, 2);
        Due.is("0, 0: three ways bump there", x.read(0, 0), 3);
        x.write(0, 1, 1);
        Due.is("0, 1", x.read(0, 0), 1);
        x.write(0, 0, 3);
        Due.is("no such field", x.read(0, 0), 0);
        x.write(0, 0, 1L << 32);
        Due.is("a number whose lowest 32 bits are 0", x.read(0, 0), 0);
        x.sheet(0, 8, 0);
        Due.is("a book of none", x.read(0, 0), 12);
        x.sheet(0, 8, 1);
        Due.is("one number", x.read(0, 0), 4);
        Due.is("nothing changes", x.its(0, 2), 0);
        Due.is("nothing changes", x.its(0, 4), 0);
        Due.is("read(4, 0)", x.read(4, 0), Due.BEYOND);
        Due.is("read(-1, 0)", x.read(-1, 0), Due.BEYOND);
        Due.is("read(2, 9): MISSING is asked first", x.read(2, 9), Due.MISSING);
        Due.is("read(0, 1)", x.read(0, 1), Due.BEYOND);
        readsWithMiles();
    }

    /** A boy's miles tell where he turns: put there now, he keeps them. */
    private static void readsWithMiles() {
        BentPlain x = Due.told("field;field;glue 0 north 1 south;glue 1 north 0 south;boy at 0 north");
        x.sheet(0, 8, 3);
        x.write(0, 1, 1);
        Due.is("0, 1, 0 with no miles: north or south", x.read(0, 0), 2);
        x.steps(2);
        Due.is("0, 1, 0 with 2 miles: he turns in 1 and bumps", x.read(0, 0), 0);
    }
}
