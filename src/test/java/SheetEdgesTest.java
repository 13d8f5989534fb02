import java.util.List;
import java.util.function.Supplier;

/** The sentences of promises 27 to 31, and of section 4, that name an edge: each has a test of its own. */
public final class SheetEdgesTest {
    private static final int MIN = Integer.MIN_VALUE;
    private static final int MAX = Integer.MAX_VALUE;
    private static final int[] WIDTHS = {8, 16, 64};

    public static void main(String[] args) {
        sheetNumbers();
        sheetBits();
        sheetSizes();
        sheetMissing();
        sheetBeyondAheadOfSize();
        sheetAllZero();
        sheetsByThemselves();
        writeSheets();
        writeMissing();
        writePlaces();
        writeLowestBits();
        writeAnswersAreNoFindings();
        copySheets();
        copyMissing();
        copyKind();
        copyPlaces();
        copyNone();
        copyAll();
        copyAsTheyAllWere();
        copyOfEachWidth();
        filmSheets();
        filmMissing();
        filmPairs();
        filmAsFarAsItHasSome();
        filmAsFarAsTheBoutGoes();
        filmLowestBits();
        filmChangesTheSheetAlone();
        readFindings();
        readAllRight();
        readFirstThatIsNot();
        readBehindTheEnd();
        readOfNone();
        readOnEightBits();
        readChangesNothing();
        Check.end();
    }

    private static List<Supplier<LogRollers>> everywhere() {
        return List.of(Edge::fresh, Edge::three, Edge::crowd, Edge::onLog, Edge::full);
    }

    /** A bout of 5 ticks (TURN 33, 66, 99, 132, 165) and a sheet 0. */
    private static LogRollers filming(int bits, int n) {
        LogRollers x = Edge.bare(70);
        x.sheet(0, bits, n);
        return x;
    }

    private static void rowIs(LogRollers x, int s, long... due) {
        for (int i = 0; i < due.length; i++) {
            Check.due("number " + i + " of sheet " + s, due[i], x.write(s, i, due[i]));
        }
        Check.due("as many", Check.BEYOND, x.write(s, due.length, 0));
    }

    // ---- Promise 27: sheet

    private static void sheetNumbers() {
        for (int s = 0; s <= 3; s++) {
            int at = s;
            Edge.allowed("sheet " + s, 7, Edge::three, x -> x.sheet(at, 8, 7));
        }
        for (Supplier<LogRollers> setting : everywhere()) {
            for (int s : Edge.outside(0, 3)) {
                for (int bits : new int[] {0, 8, 16, 64}) {
                    Edge.refused("sheet " + s + " of " + bits, Check.BEYOND, setting, x -> x.sheet(s, bits, 7));
                }
            }
        }
    }

    private static void sheetBits() {
        for (int bits : WIDTHS) {
            Edge.allowed(bits + " bits", 7, Edge::crowd, x -> x.sheet(0, bits, 7));
        }
        for (Supplier<LogRollers> setting : everywhere()) {
            for (int bits : new int[] {-64, -16, -8, -1, 1, 7, 9, 15, 17, 24, 32, 63, 65, 72, 128, 256, MIN, MAX}) {
                Edge.refused(bits + " bits", Check.BEYOND, setting, x -> x.sheet(0, bits, 7));
            }
        }
    }

    /** "SIZE: n is below 0 (also with bits 0). BEYOND: n is above 40 (also with bits 0)." */
    private static void sheetSizes() {
        for (int bits : new int[] {0, 8, 16, 64}) {
            for (int n : new int[] {0, 1, 39, 40}) {
                Edge.allowed(n + " numbers of " + bits, bits == 0 ? 0 : n, Edge::crowd, x -> x.sheet(1, bits, n));
                LogRollers x = Edge.crowd();
                x.sheet(1, bits, n);
                Check.due("the last of " + n, bits == 0 ? Check.MISSING : n == 0 ? Check.BEYOND : 0, x.write(1, n - 1, 5));
                Check.due("behind the last of " + n, bits == 0 ? Check.MISSING : Check.BEYOND, x.write(1, n, 5));
            }
            for (Supplier<LogRollers> setting : everywhere()) {
                for (int n : new int[] {-1, -40, MIN}) {
                    Edge.refused(n + " numbers of " + bits, Check.SIZE, setting, x -> x.sheet(1, bits, n));
                }
                for (int n : new int[] {41, 100, MAX}) {
                    Edge.refused(n + " numbers of " + bits, Check.BEYOND, setting, x -> x.sheet(1, bits, n));
                }
            }
        }
    }

    /** "bits 0: it is MISSING: n (0 if it is MISSING)". */
    private static void sheetMissing() {
        for (int s = 0; s <= 3; s++) {
            int at = s;
            Edge.allowed("sheet " + s + " is MISSING", 0, Edge::crowd, x -> x.sheet(at, 0, 40));
            LogRollers x = Edge.crowd();
            x.sheet(s, 0, 3);
            Check.due("write", Check.MISSING, x.write(s, 0, 0));
            Check.due("film", Check.MISSING, x.film(s, 0, 1));
            Check.due("read", Check.MISSING, x.read(s, 0, 1));
            Check.due("copy from it", Check.MISSING, x.copy(s, 0, (s + 1) % 4, 0, 0));
            Check.due("copy to it", Check.MISSING, x.copy((s + 1) % 4, 0, s, 0, 0));
            Check.due("once more", 0, x.sheet(s, 0, 0));
            Check.due("there again", 2, x.sheet(s, 16, 2));
            rowIs(x, s, 0, 0);
        }
    }

    private static void sheetBeyondAheadOfSize() {
        for (int n : new int[] {-1, MIN}) {
            Edge.refused("no such sheet", Check.BEYOND, Edge::crowd, x -> x.sheet(4, 8, n));
            Edge.refused("no such sheet below", Check.BEYOND, Edge::crowd, x -> x.sheet(-1, 0, n));
            Edge.refused("other bits", Check.BEYOND, Edge::crowd, x -> x.sheet(0, 9, n));
        }
    }

    private static void sheetAllZero() {
        for (int bits : WIDTHS) {
            LogRollers x = new LogRollers();
            x.sheet(2, bits, 40);
            for (int i = 0; i < 40; i++) {
                x.write(2, i, -1 - i);
            }
            for (int again : WIDTHS) {
                x.sheet(2, again, 40);
                for (int i = 0; i < 40; i += 13) {
                    Check.due("number " + i, 0, x.write(2, i, 77));
                }
            }
            x.sheet(2, bits, 2);
            x.write(2, 1, 7);
            x.sheet(2, bits, 40);
            Check.due("as it grows", 0, x.write(2, 1, 0));
            Check.due("and what is new", 0, x.write(2, 39, 0));
        }
    }

    private static void sheetsByThemselves() {
        LogRollers x = new LogRollers();
        for (int s = 0; s < 4; s++) {
            x.sheet(s, 16, 2 + s);
            x.write(s, 1, 100 + s);
        }
        x.sheet(1, 8, 2);
        x.sheet(2, 0, 2);
        rowIs(x, 0, 0, 100);
        rowIs(x, 1, 0, 0);
        Check.due("sheet 2", Check.MISSING, x.write(2, 1, 0));
        rowIs(x, 3, 0, 103, 0, 0, 0);
        Edge.same("people and the log", Edge.world(Edge.crowd()), Edge.world(withSheet(Edge.crowd())));
    }

    private static LogRollers withSheet(LogRollers x) {
        x.sheet(3, 64, 40);
        x.write(3, 0, 5);
        x.copy(3, 0, 3, 1, 1);
        return x;
    }

    // ---- Promise 28: write

    private static void writeSheets() {
        for (Supplier<LogRollers> setting : everywhere()) {
            for (int s : Edge.outside(0, 3)) {
                Edge.refused("write to sheet " + s, Check.BEYOND, setting, x -> x.write(s, 0, 5));
            }
        }
    }

    /** MISSING is asked ahead of the number's place. */
    private static void writeMissing() {
        for (int i : new int[] {0, -1, 39, 40, MIN, MAX}) {
            Edge.refused("number " + i + " of what is MISSING", Check.MISSING, Edge::crowd, x -> x.write(3, i, 5));
        }
    }

    private static void writePlaces() {
        Edge.allowed("the first of 40", 0, Edge::crowd, x -> x.write(0, 0, 5));
        Edge.allowed("the last of 40", -7, Edge::crowd, x -> x.write(0, 39, 5));
        Edge.allowed("the last of 5", 0, Edge::crowd, x -> x.write(1, 4, 5));
        int[] sizes = {40, 5, 3};
        for (int s = 0; s < 3; s++) {
            int at = s;
            for (int i : Edge.outside(0, sizes[s] - 1)) {
                Edge.refused("number " + i + " of " + sizes[s], Check.BEYOND, Edge::crowd, x -> x.write(at, i, 5));
            }
        }
        for (int bits : WIDTHS) {
            Edge.refused("the first of none", Check.BEYOND, () -> filming(bits, 0), x -> x.write(0, 0, 5));
            Edge.refused("number -1 of none", Check.BEYOND, () -> filming(bits, 0), x -> x.write(0, -1, 5));
        }
    }

    /** "becomes v (its lowest bits)", of 8, 16 or 64 "with a sign". */
    private static void writeLowestBits() {
        long[][] eight = {{127, 127}, {128, -128}, {-128, -128}, {-129, 127}, {255, -1}, {256, 0}, {-256, 0}, {-1, -1}, {65535, -1}, {Long.MAX_VALUE, -1}, {Long.MIN_VALUE, 0}};
        long[][] sixteen = {{32767, 32767}, {32768, -32768}, {-32768, -32768}, {-32769, 32767}, {65535, -1}, {65536, 0}, {-65536, 0}, {255, 255}, {Long.MAX_VALUE, -1},
            {Long.MIN_VALUE, 0}};
        long[][] all = {{Long.MAX_VALUE, Long.MAX_VALUE}, {Long.MIN_VALUE, Long.MIN_VALUE}, {2147483648L, 2147483648L}, {-2147483649L, -2147483649L}, {65536, 65536}, {-1, -1}};
        long[][][] rows = {eight, sixteen, all};
        for (int w = 0; w < 3; w++) {
            int bits = WIDTHS[w];
            for (long[] r : rows[w]) {
                LogRollers x = filming(bits, 40);
                Check.due("it was 0", 0, x.write(0, 39, r[0]));
                Check.due(bits + " bits of " + r[0], r[1], x.write(0, 39, 5));
                Check.due("its neighbour", 0, x.write(0, 38, 5));
                Check.due("no finding", 0, x.status(-1));
            }
        }
    }

    /** A number may be what a finding is; it isn't one. */
    private static void writeAnswersAreNoFindings() {
        for (long v = -1000000008L; v <= -1000000000L; v++) {
            LogRollers x = filming(64, 1);
            x.write(0, 0, v);
            Check.due("what it was", v, x.write(0, 0, v));
            Check.due("no finding", 0, x.status(-1));
        }
    }

    // ---- Promise 29: copy

    /** Sheets 0 (5 numbers: 10 .. 14) and 1 (4: 20 .. 23) of 8 bits, 2 of 16; 3 is MISSING. */
    private static LogRollers rows() {
        LogRollers x = new LogRollers();
        x.sheet(0, 8, 5);
        x.sheet(1, 8, 4);
        x.sheet(2, 16, 5);
        for (int i = 0; i < 5; i++) {
            x.write(0, i, 10 + i);
            x.write(2, i, 30 + i);
        }
        for (int i = 0; i < 4; i++) {
            x.write(1, i, 20 + i);
        }
        return x;
    }

    /** BEYOND of the sheets is asked ahead of all else. */
    private static void copySheets() {
        for (int s : Edge.outside(0, 3)) {
            Edge.refused("from sheet " + s, Check.BEYOND, SheetEdgesTest::rows, x -> x.copy(s, 0, 0, 0, 1));
            Edge.refused("to sheet " + s, Check.BEYOND, SheetEdgesTest::rows, x -> x.copy(0, 0, s, 0, 1));
            Edge.refused("from what is MISSING to sheet " + s, Check.BEYOND, SheetEdgesTest::rows, x -> x.copy(3, 0, s, 0, 1));
            Edge.refused("from sheet " + s + " to what is MISSING", Check.BEYOND, SheetEdgesTest::rows, x -> x.copy(s, 0, 3, 0, -1));
            Edge.refused("of nothing, sheet " + s, Check.BEYOND, SheetEdgesTest::rows, x -> x.copy(s, 0, s, 0, 0));
        }
    }

    /** MISSING is asked ahead of KIND, and of the places. */
    private static void copyMissing() {
        for (int n : new int[] {0, 1, 41, -1, MIN, MAX}) {
            for (int other = 0; other < 4; other++) {
                int o = other;
                Edge.refused("from what is MISSING to " + o, Check.MISSING, SheetEdgesTest::rows, x -> x.copy(3, 0, o, 0, n));
                Edge.refused("to what is MISSING from " + o, Check.MISSING, SheetEdgesTest::rows, x -> x.copy(o, -1, 3, 9, n));
            }
        }
    }

    /** KIND is asked ahead of the places. */
    private static void copyKind() {
        for (int n : new int[] {0, 1, 41, -1, MIN, MAX}) {
            Edge.refused("8 to 16 bits", Check.KIND, SheetEdgesTest::rows, x -> x.copy(0, 0, 2, 0, n));
            Edge.refused("16 to 8 bits", Check.KIND, SheetEdgesTest::rows, x -> x.copy(2, -1, 1, 9, n));
        }
        for (int bits : WIDTHS) {
            for (int others : WIDTHS) {
                if (bits != others) {
                    Edge.refused(bits + " to " + others, Check.KIND, () -> twoOf(bits, others), x -> x.copy(0, 0, 1, 0, 1));
                }
            }
        }
    }

    private static LogRollers twoOf(int bits, int others) {
        LogRollers x = new LogRollers();
        x.sheet(0, bits, 3);
        x.sheet(1, others, 3);
        x.write(0, 1, -1234567890123L);
        return x;
    }

    /** "BEYOND: one has not so many, or from, to or n is below 0." */
    private static void copyPlaces() {
        int[][] beyond = {{-1, 0, 1}, {0, -1, 1}, {0, 0, -1}, {-1, -1, -1}, {0, 0, 5}, {1, 0, 5}, {2, 0, 4}, {5, 0, 1}, {4, 0, 2}, {0, 4, 1}, {0, 3, 2}, {0, 1, 4},
            {6, 0, 0}, {0, 5, 0}, {-1, 0, 0}, {0, -1, 0}, {1, 1, -1}, {MAX, 0, 1}, {0, MAX, 1}, {1, 0, MAX}, {0, 1, MAX}, {MAX, MAX, MAX}, {MIN, 0, 1}, {0, MIN, 1},
            {0, 0, MIN}, {MIN, MIN, MIN}, {MIN, 0, MAX}, {MAX, 0, MIN}, {MAX, 0, 0}, {0, MAX, 0}};
        for (int[] b : beyond) {
            Edge.refused("from " + b[0] + " to " + b[1] + ", " + b[2] + " of them", Check.BEYOND, SheetEdgesTest::rows, x -> x.copy(0, b[0], 1, b[1], b[2]));
        }
        int[][] backwards = {{0, 0, 5}, {0, 1, 5}, {4, 0, 1}, {3, 0, 2}, {0, 5, 1}, {0, 4, 2}, {5, 0, 0}, {0, 6, 0}};
        for (int[] b : backwards) {
            Edge.refused("the other way, from " + b[0] + " to " + b[1] + ", " + b[2] + " of them", Check.BEYOND, SheetEdgesTest::rows, x -> x.copy(1, b[0], 0, b[1], b[2]));
        }
    }

    private static void copyNone() {
        int[][] fine = {{0, 0}, {5, 4}, {5, 0}, {0, 4}, {2, 2}};
        for (int[] f : fine) {
            Edge.allowedAndIdle("none from " + f[0] + " to " + f[1], 0, SheetEdgesTest::rows, x -> x.copy(0, f[0], 1, f[1], 0));
        }
        Edge.allowedAndIdle("none of none", 0, () -> filming(8, 0), x -> x.copy(0, 0, 0, 0, 0));
        Edge.refused("one of none", Check.BEYOND, () -> filming(8, 0), x -> x.copy(0, 0, 0, 0, 1));
    }

    private static void copyAll() {
        LogRollers x = rows();
        Check.due("as many as fit", 4, x.copy(0, 0, 1, 0, 4));
        rowIs(x, 1, 10, 11, 12, 13);
        rowIs(x, 0, 10, 11, 12, 13, 14);
        LogRollers y = rows();
        Check.due("the last", 1, y.copy(0, 4, 1, 3, 1));
        rowIs(y, 1, 20, 21, 22, 14);
        LogRollers w = rows();
        Check.due("from the other one", 4, w.copy(1, 0, 0, 1, 4));
        rowIs(w, 0, 10, 20, 21, 22, 23);
        LogRollers whole = new LogRollers();
        whole.sheet(0, 16, 40);
        whole.sheet(3, 16, 40);
        for (int i = 0; i < 40; i++) {
            whole.write(0, i, 1000 + i);
        }
        Check.due("40", 40, whole.copy(0, 0, 3, 0, 40));
        for (int i = 0; i < 40; i++) {
            Check.due("number " + i, 1000 + i, whole.write(3, i, 0));
        }
    }

    /** "(as they all were)": on one and the same sheet. */
    private static void copyAsTheyAllWere() {
        LogRollers up = rows();
        Check.due("up by 1", 4, up.copy(0, 0, 0, 1, 4));
        rowIs(up, 0, 10, 10, 11, 12, 13);
        LogRollers down = rows();
        Check.due("down by 1", 4, down.copy(0, 1, 0, 0, 4));
        rowIs(down, 0, 11, 12, 13, 14, 14);
        LogRollers two = rows();
        Check.due("up by 2", 3, two.copy(0, 0, 0, 2, 3));
        rowIs(two, 0, 10, 11, 10, 11, 12);
        LogRollers all = rows();
        Check.due("onto themselves", 5, all.copy(0, 0, 0, 0, 5));
        rowIs(all, 0, 10, 11, 12, 13, 14);
        Edge.refused("one too far", Check.BEYOND, SheetEdgesTest::rows, x -> x.copy(0, 0, 0, 1, 5));
    }

    private static void copyOfEachWidth() {
        long[] values = {-124, -12345, -1234567890123L};
        for (int w = 0; w < 3; w++) {
            LogRollers x = new LogRollers();
            x.sheet(0, WIDTHS[w], 3);
            x.sheet(1, WIDTHS[w], 3);
            x.write(0, 2, values[w]);
            Check.due("copy", 2, x.copy(0, 1, 1, 0, 2));
            rowIs(x, 1, 0, values[w], 0);
        }
    }

    // ---- Promise 30: film

    private static void filmSheets() {
        for (Supplier<LogRollers> setting : everywhere()) {
            for (int s : Edge.outside(0, 3)) {
                Edge.refused("film on sheet " + s, Check.BEYOND, setting, x -> x.film(s, 0, 1));
                Edge.refused("read of sheet " + s, Check.BEYOND, setting, x -> x.read(s, 0, 1));
            }
        }
    }

    /** MISSING is asked ahead of a and b. */
    private static void filmMissing() {
        Edge.refused("of two", Check.MISSING, Edge::crowd, x -> x.film(3, 0, 1));
        Edge.refused("of one and the same", Check.MISSING, Edge::crowd, x -> x.film(3, 1, 1));
        Edge.refused("of nobody", Check.MISSING, Edge::fresh, x -> x.film(3, -1, MAX));
    }

    private static void filmPairs() {
        Edge.refused("nobody is there", Check.BEYOND, SheetEdgesTest::rows, x -> x.film(0, 0, 1));
        for (int person : Edge.outside(0, 1)) {
            Edge.refused("a " + person, Check.BEYOND, () -> filming(8, 9), x -> x.film(0, person, 1));
            Edge.refused("b " + person, Check.BEYOND, () -> filming(8, 9), x -> x.film(0, 0, person));
        }
        for (int person = 0; person < 8; person++) {
            int p = person;
            Edge.refused("one and the same, " + p, Check.BEYOND, Edge::crowd, x -> x.film(0, p, p));
        }
        for (int person : Edge.outside(0, 7)) {
            Edge.refused("a " + person, Check.BEYOND, Edge::onLog, x -> x.film(1, person, 1));
            Edge.refused("b " + person, Check.BEYOND, Edge::onLog, x -> x.film(1, 1, person));
        }
        Edge.allowed("the first and the last", 5, Edge::crowd, x -> x.film(1, 0, 7));
    }

    /** "as far as it has some": fewer than the bout has, and none. */
    private static void filmAsFarAsItHasSome() {
        Edge.allowedAndIdle("no numbers", 0, () -> filming(16, 0), x -> x.film(0, 0, 1));
        LogRollers one = filming(16, 1);
        Check.due("one", 1, one.film(0, 0, 1));
        rowIs(one, 0, 33);
        LogRollers four = filming(16, 4);
        Check.due("four", 4, four.film(0, 0, 1));
        rowIs(four, 0, 33, 66, 99, 132);
        LogRollers forty = Edge.three();
        forty.sheet(3, 16, 40);
        Check.due("forty", 40, forty.film(3, 0, 1));
        Check.due("TURN behind the last", forty.ahead(0, 1, 40, 2), forty.write(3, 39, 0));
        Check.due("TURN behind the last but one", forty.ahead(0, 1, 39, 2), forty.write(3, 38, 0));
    }

    /** "and the BOUT goes": what is behind its end stays as it was. */
    private static void filmAsFarAsTheBoutGoes() {
        LogRollers just = filming(16, 5);
        Check.due("just five", 5, just.film(0, 0, 1));
        rowIs(just, 0, 33, 66, 99, 132, 165);
        LogRollers more = filming(16, 7);
        for (int i = 0; i < 7; i++) {
            more.write(0, i, -5);
        }
        Check.due("five of seven", 5, more.film(0, 0, 1));
        rowIs(more, 0, 33, 66, 99, 132, 165, -5, -5);
        LogRollers once = Edge.bare(0);
        once.sheet(0, 8, 40);
        once.write(0, 1, 9);
        Check.due("one of forty", 1, once.film(0, 0, 1));
        Check.due("the one", 33, once.write(0, 0, 0));
        Check.due("behind it", 9, once.write(0, 1, 0));
    }

    /** "(its lowest bits)". */
    private static void filmLowestBits() {
        LogRollers eight = filming(8, 5);
        Check.due("8 bits", 5, eight.film(0, 0, 1));
        rowIs(eight, 0, 33, 66, 99, 132 - 256, 165 - 256);
        LogRollers sixteen = filming(16, 5);
        sixteen.film(0, 0, 1);
        rowIs(sixteen, 0, 33, 66, 99, 132, 165);
        LogRollers all = filming(64, 5);
        all.film(0, 0, 1);
        rowIs(all, 0, 33, 66, 99, 132, 165);
    }

    private static void filmChangesTheSheetAlone() {
        LogRollers x = Edge.onLog();
        x.film(1, 0, 7);
        Edge.same("film", Edge.world(Edge.onLog()), Edge.world(x));
        LogRollers y = filming(16, 5);
        y.sheet(1, 16, 5);
        y.film(1, 0, 1);
        rowIs(y, 0, 0, 0, 0, 0, 0);
        Check.due("no finding but what was asked for", 1, y.status(-1));
    }

    // ---- Promise 31: read

    private static void readFindings() {
        Edge.refused("MISSING", Check.MISSING, Edge::crowd, x -> x.read(3, 0, 1));
        Edge.refused("MISSING is asked ahead of a, b", Check.MISSING, Edge::crowd, x -> x.read(3, 8, 8));
        Edge.refused("MISSING with nobody", Check.MISSING, Edge::fresh, x -> x.read(0, 0, 0));
        Edge.refused("nobody is there", Check.BEYOND, SheetEdgesTest::rows, x -> x.read(0, 0, 1));
        for (int person : Edge.outside(0, 1)) {
            Edge.refused("a " + person, Check.BEYOND, () -> filming(8, 9), x -> x.read(0, person, 1));
            Edge.refused("b " + person, Check.BEYOND, () -> filming(8, 9), x -> x.read(0, 0, person));
            Edge.refused("of no numbers", Check.BEYOND, () -> filming(8, 0), x -> x.read(0, 0, person));
        }
        for (int person = 0; person < 8; person++) {
            int p = person;
            Edge.refused("one and the same, " + p, Check.BEYOND, Edge::onLog, x -> x.read(0, p, p));
        }
    }

    private static LogRollers filmed(int bits, int n) {
        LogRollers x = filming(bits, n);
        x.film(0, 0, 1);
        return x;
    }

    private static void readAllRight() {
        for (int bits : new int[] {16, 64}) {
            for (int n = 0; n <= 5; n++) {
                int many = n;
                Edge.allowedAndIdle(n + " of " + bits + " bits", 0, () -> filmed(bits, many), x -> x.read(0, 0, 1));
            }
        }
        Edge.allowedAndIdle("3 of 8 bits", 0, () -> filmed(8, 3), x -> x.read(0, 0, 1));
        LogRollers forty = Edge.three();
        forty.sheet(3, 64, 40);
        forty.film(3, 0, 1);
        Check.due("forty", 0, forty.read(3, 0, 1));
        forty.write(3, 39, 999);
        Check.due("but for the last", 40, forty.read(3, 0, 1));
    }

    /** "else 1 and the place of the first that isn't". */
    private static void readFirstThatIsNot() {
        for (int place = 0; place < 5; place++) {
            for (int off : new int[] {-1, 1, 256, 65536}) {
                LogRollers x = filmed(64, 5);
                long right = 33 * (place + 1);
                x.write(0, place, right + off);
                Check.due("place " + place + " is off by " + off, 1 + place, x.read(0, 0, 1));
                x.write(0, 4, -1);
                Check.due("the last, too", 1 + place, x.read(0, 0, 1));
            }
        }
        LogRollers wide = filmed(64, 5);
        wide.write(0, 2, 99 + (1L << 32));
        Check.due("all 64 bits count", 3, wide.read(0, 0, 1));
    }

    /** "or is behind its end": on a log of this line the bout has 5 ticks. */
    private static void readBehindTheEnd() {
        for (int n = 6; n <= 40; n += 17) {
            LogRollers x = filmed(16, n);
            Check.due("the sixth of " + n, 6, x.read(0, 0, 1));
            x.write(0, 5, 198);
            Check.due("though it would be right", 6, x.read(0, 0, 1));
            x.write(0, 4, 0);
            Check.due("the fifth ahead of it", 5, x.read(0, 0, 1));
        }
        LogRollers once = Edge.bare(0);
        once.sheet(0, 8, 40);
        once.film(0, 0, 1);
        Check.due("the second", 2, once.read(0, 0, 1));
    }

    private static void readOfNone() {
        for (int bits : WIDTHS) {
            Edge.allowedAndIdle("none of " + bits + " bits", 0, () -> filming(bits, 0), x -> x.read(0, 0, 1));
        }
    }

    /** A number is right if it is TURN; film's "lowest bits" of 132 are -124, which TURN isn't. */
    private static void readOnEightBits() {
        Edge.allowedAndIdle("-124", 4, () -> filmed(8, 5), x -> x.read(0, 0, 1));
    }

    private static void readChangesNothing() {
        Edge.allowedAndIdle("as they are on the log", 6, () -> {
            LogRollers x = filmed(16, 9);
            x.mount(1, 0);
            x.bout(2);
            return x;
        }, x -> x.read(0, 0, 1));
    }
}
