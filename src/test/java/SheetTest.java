/** Promises 27 to 31: sheet, write, copy, film, read. */
public final class SheetTest {
    private static final int MIN = Integer.MIN_VALUE;
    private static final int MAX = Integer.MAX_VALUE;

    public static void main(String[] args) {
        sheetsAreMade();
        numbersAreWritten();
        rowsAreCopied();
        filmAndReader();
        filmOfFewBits();
        filmFindings();
        Check.end();
    }

    private static void sheetsAreMade() {
        LogRollers x = new LogRollers();
        Check.due("no such sheet", Check.BEYOND, x.sheet(4, 8, 1));
        Check.due("no such sheet below", Check.BEYOND, x.sheet(-1, 8, 1));
        Check.due("no such sheet and no size: BEYOND first", Check.BEYOND, x.sheet(4, 8, -1));
        for (int bits : new int[] {1, 7, 9, 32, -8, 128, MIN, MAX}) {
            Check.due("bits " + bits, Check.BEYOND, x.sheet(0, bits, -1));
        }
        for (int bits : new int[] {0, 8, 16, 64}) {
            Check.due("size -1", Check.SIZE, x.sheet(0, bits, -1));
            Check.due("size least", Check.SIZE, x.sheet(0, bits, MIN));
            Check.due("size 41", Check.BEYOND, x.sheet(0, bits, 41));
            Check.due("size 40", bits == 0 ? 0 : 40, x.sheet(0, bits, 40));
            Check.due("size 0", 0, x.sheet(0, bits, 0));
            Check.due("of no numbers", bits == 0 ? Check.MISSING : Check.BEYOND, x.write(0, 0, 1));
        }
        x.sheet(1, 8, 3);
        x.write(1, 0, 7);
        x.write(1, 2, 7);
        Check.due("a sheet anew", 3, x.sheet(1, 8, 3));
        Check.due("all 0", 0, x.write(1, 0, 9));
        Check.due("the last too", 0, x.write(1, 2, 9));
        Check.due("a finding", Check.BEYOND, x.sheet(1, 8, 41));
        Check.due("changes nothing", 9, x.write(1, 2, 9));
        Check.due("MISSING again", 0, x.sheet(1, 0, 9));
        Check.due("it is", Check.MISSING, x.write(1, 2, 9));
    }

    private static void numbersAreWritten() {
        LogRollers x = new LogRollers();
        Check.due("no such sheet", Check.BEYOND, x.write(4, 0, 0));
        Check.due("MISSING before the place", Check.MISSING, x.write(0, -1, 0));
        x.sheet(0, 8, 2);
        x.sheet(1, 16, 2);
        x.sheet(2, 64, 2);
        for (int i : new int[] {-1, 2, MIN, MAX}) {
            Check.due("no such number", Check.BEYOND, x.write(0, i, 0));
        }
        long[] values = {0, 127, 128, 255, 256, -129, 32767, 32768, 65535, -32769, Long.MIN_VALUE, Long.MAX_VALUE, -1000000001L, -2000000000L};
        for (long v : values) {
            x.write(0, 1, v);
            x.write(1, 1, v);
            x.write(2, 1, v);
            Check.due("8 bits of " + v, (byte) v, x.write(0, 1, 0));
            Check.due("16 bits of " + v, (short) v, x.write(1, 1, 0));
            Check.due("64 bits of " + v, v, x.write(2, 1, 0));
        }
        Check.due("the neighbour stays", 0, x.write(0, 0, 1));
        Check.due("numbers are no findings", 6, x.status(-1));
    }

    private static void fill(LogRollers x, int s, int n, int from) {
        for (int i = 0; i < n; i++) {
            x.write(s, i, from + i);
        }
    }

    private static void rowIs(LogRollers x, int s, int... due) {
        for (int i = 0; i < due.length; i++) {
            Check.due("number " + i + " of sheet " + s, due[i], x.write(s, i, due[i]));
        }
    }

    private static void rowsAreCopied() {
        LogRollers x = new LogRollers();
        x.sheet(0, 8, 5);
        x.sheet(1, 8, 4);
        x.sheet(2, 16, 4);
        Check.due("no such sheet", Check.BEYOND, x.copy(4, 0, 0, 0, 1));
        Check.due("nor that", Check.BEYOND, x.copy(0, 0, -1, 0, 1));
        Check.due("BEYOND before MISSING", Check.BEYOND, x.copy(3, 0, 4, 0, 1));
        Check.due("MISSING", Check.MISSING, x.copy(3, 0, 0, 0, 1));
        Check.due("MISSING there", Check.MISSING, x.copy(0, 0, 3, 0, -1));
        Check.due("KIND before the places", Check.KIND, x.copy(0, 0, 2, 0, -1));
        int[][] beyond = {{-1, 0, 1}, {0, -1, 1}, {0, 0, -1}, {0, 0, 5}, {1, 0, 5}, {5, 0, 1}, {0, 4, 1}, {6, 0, 0}, {0, 5, 0},
            {MAX, 0, 1}, {0, MAX, 1}, {1, 0, MAX}, {MAX, MAX, MAX}, {MIN, 0, 1}, {0, MIN, 1}, {0, 0, MIN}};
        for (int[] b : beyond) {
            Check.due("copy beyond", Check.BEYOND, x.copy(0, b[0], 1, b[1], b[2]));
        }
        fill(x, 0, 5, 10);
        fill(x, 1, 4, 20);
        Check.due("none", 0, x.copy(0, 5, 1, 4, 0));
        Check.due("three", 3, x.copy(0, 2, 1, 1, 3));
        rowIs(x, 1, 20, 12, 13, 14);
        rowIs(x, 0, 10, 11, 12, 13, 14);
        Check.due("onto itself, up", 4, x.copy(0, 0, 0, 1, 4));
        rowIs(x, 0, 10, 10, 11, 12, 13);
        Check.due("onto itself, down", 3, x.copy(0, 2, 0, 0, 3));
        rowIs(x, 0, 11, 12, 13, 12, 13);
    }

    private static LogRollers bareLog() {
        LogRollers x = new LogRollers();
        x.roller(1, 1);
        x.roller(0, 1);
        x.set(0, 3, 99);
        x.set(0, 4, 999);
        x.log(0, 1);
        x.log(1, 0);
        x.log(2, 0);
        x.log(3, 999);
        return x;
    }

    private static void filmAndReader() {
        LogRollers x = bareLog();
        x.sheet(0, 16, 4);
        x.sheet(1, 64, 40);
        Check.due("film", 4, x.film(0, 0, 1));
        rowIs(x, 0, 33, 66, 99, 132);
        Check.due("read", 0, x.read(0, 0, 1));
        Check.due("read the other way round", 0, x.read(0, 1, 0));
        x.write(0, 3, 133);
        Check.due("the last isn't right", 4, x.read(0, 0, 1));
        x.write(0, 0, 0);
        Check.due("the first isn't", 1, x.read(0, 0, 1));

        // The lean of one with a reach of 1 behind tick 0 is 7, behind tick 1 more than 20.
        x.set(1, 3, 1);
        x.log(3, 20);
        int ticks = x.ahead(0, 1, 200, 1);
        for (int i = 0; i < 40; i++) {
            x.write(1, i, -5);
        }
        Check.due("as far as the bout goes", ticks, x.film(1, 0, 1));
        Check.due("the last of it", 33 * ticks, x.write(1, ticks - 1, 33 * ticks));
        Check.due("behind it nothing changes", -5, x.write(1, ticks, 33 * (ticks + 1)));
        Check.due("behind its end none is right", 1 + ticks, x.read(1, 0, 1));
        x.sheet(2, 8, 0);
        Check.due("film of none", 0, x.film(2, 0, 1));
        Check.due("read of none", 0, x.read(2, 0, 1));
    }

    private static void filmOfFewBits() {
        LogRollers x = bareLog();
        x.sheet(0, 8, 5);
        x.film(0, 0, 1);
        rowIs(x, 0, 33, 66, 99, (byte) 132, (byte) 165);
        Check.due("a number that is not TURN isn't right", 4, x.read(0, 0, 1));
    }

    private static void filmFindings() {
        LogRollers x = bareLog();
        for (int s : new int[] {-1, 4, MIN, MAX}) {
            Check.due("film of no sheet", Check.BEYOND, x.film(s, 0, 1));
            Check.due("read of no sheet", Check.BEYOND, x.read(s, 0, 1));
        }
        Check.due("film MISSING, asked ahead of the people", Check.MISSING, x.film(0, 9, 9));
        Check.due("read MISSING, asked ahead of the people", Check.MISSING, x.read(0, 9, 9));
        x.sheet(0, 8, 3);
        int[][] pairs = {{0, 0}, {0, 2}, {2, 0}, {-1, 0}, {0, -1}, {MIN, MAX}};
        for (int[] p : pairs) {
            Check.due("film of no pair", Check.BEYOND, x.film(0, p[0], p[1]));
            Check.due("read of no pair", Check.BEYOND, x.read(0, p[0], p[1]));
        }
        int z = x.count(5);
        x.film(0, 0, 1);
        x.read(0, 0, 1);
        Check.due("z stays", z, x.count(5));
        Check.due("TURN stays", 0, x.now(0));
    }
}
