/** Promises 20 to 30: sheet, lose, put, cell, copy, tell, print, as, trace, fault, many. */
public final class SheetsTest {
    private static final Due D = new Due("SheetsTest");
    private static final int MIN = Integer.MIN_VALUE, MAX = Integer.MAX_VALUE;
    private static final long LOST = SpanWidths.LOST;
    /** MUST 3 2 2, WOULD 5 4 4. */
    private static final String THREE = "t3;p0124;f1113;d2112;p0259;f0368";

    public static void main(String[] args) {
        sheets();
        losses();
        puts();
        lanesCut();
        cells();
        copies();
        copyFaults();
        tellings();
        prints();
        traces();
        takenAs();
        faults();
        howMany();
        D.end();
    }

    private static void fails(SpanWidths x, String call, long got, long want, int fault) {
        D.due(call, got, want);
        D.due(call + " fault()", x.fault(), fault);
    }

    private static void sheets() {
        SpanWidths x = new SpanWidths();
        for (int k = 0; k < 4; k++) {
            for (int lane = 0; lane < 3; lane++) D.due("sheet(" + k + ", " + lane + ", 60)", x.sheet(k, lane, 60), 1);
        }
        D.due("the last cell", x.cell(3, 59, 2), 0);
        x.put(3, 0, 7);
        for (int k : new int[] {-1, 4, MIN, MAX}) {
            x.put(3, -1, 0);
            fails(x, "sheet(" + k + ", 3, 61)", x.sheet(k, 3, 61), -1, 0);
        }
        for (int lane : new int[] {-1, 3, MIN, MAX}) fails(x, "sheet(3, " + lane + ", -1)", x.sheet(3, lane, -1), -2, 0);
        for (int n : new int[] {61, MAX}) fails(x, "sheet(3, 0, " + n + ")", x.sheet(3, 0, n), -2, 0);
        for (int n : new int[] {-1, MIN}) fails(x, "sheet(3, 0, " + n + ")", x.sheet(3, 0, n), -14, 4);
        D.due("what was there stays", x.cell(3, 0, 2), 7);
        fails(x, "sheet(3, 2, 1)", x.sheet(3, 2, 1), 1, 0);
        D.due("0 at first", x.cell(3, 0, 2), 0);
        D.due("a shorter one", x.put(3, 1, 0), -13);
        D.due("sheet(3, 2, 0)", x.sheet(3, 2, 0), 1);
        D.due("of none", x.put(3, 0, 0), -13);
        D.due("it has something", x.lose(3), 1);
    }

    private static void losses() {
        SpanWidths x = new SpanWidths();
        D.due("nothing yet", x.lose(0), 0);
        Due.write(x, 0, Due.INTS, 5);
        D.due("lose(0)", x.lose(0), 1);
        D.due("lose(0) again", x.lose(0), 0);
        D.due("put", x.put(0, 0, 1), -11);
        D.due("lose names no fault", x.lose(0), 0);
        D.due("so fault() stays", x.fault(), 1);
        for (int k : new int[] {-1, 4, MIN, MAX}) D.due("lose(" + k + ")", x.lose(k), -1);
        D.due("so fault() stays", x.fault(), 1);
        x.sheet(0, 2, 1);
        D.due("a new row", x.cell(0, 0, 2), 0);
    }

    private static void puts() {
        SpanWidths x = new SpanWidths();
        Due.write(x, 1, Due.INTS, 5, 6);
        for (int k : new int[] {-1, 4, MIN, MAX}) fails(x, "put(" + k + ", -1, 0)", x.put(k, -1, 0), -1, 0);
        fails(x, "put(0, -1, 0)", x.put(0, -1, 0), -11, 1);
        for (int i : new int[] {-1, 2, 60, MIN, MAX}) fails(x, "put(1, " + i + ", 0)", x.put(1, i, 0), -13, 3);
        fails(x, "put(1, 1, 9)", x.put(1, 1, 9), 1, 0);
        D.due("cell 0", x.cell(1, 0, 2), 5);
        D.due("cell 1", x.cell(1, 1, 2), 9);
    }

    private static void lanesCut() {
        SpanWidths x = new SpanWidths();
        int[] numbers = {0, 127, 128, 255, 256, -1, -128, -129, 32767, 32768, 65535, 65536, -32769, MIN, MAX};
        for (int lane = 0; lane < 3; lane++) {
            x.sheet(2, lane, 1);
            for (int v : numbers) {
                x.put(2, 0, v);
                D.due("lane " + lane + ", " + v, x.cell(2, 0, lane), lane == 0 ? (byte) v : lane == 1 ? (short) v : v);
            }
        }
    }

    private static void cells() {
        SpanWidths x = new SpanWidths();
        Due.write(x, 1, Due.SHORTS, -5, 6);
        for (int k : new int[] {-1, 4, MIN, MAX}) {
            fails(x, "cell(" + k + ", -1, 3)", x.cell(k, -1, 3), LOST, 0);
            fails(x, "cell(" + k + ", 0, 1)", x.cell(k, 0, 1), LOST, 0);
        }
        for (int lane : new int[] {-1, 3, MIN, MAX}) {
            x.put(0, 0, 0);
            fails(x, "cell(1, -1, " + lane + ")", x.cell(1, -1, lane), LOST, 0);
            x.put(0, 0, 0);
            fails(x, "cell(0, -1, " + lane + ")", x.cell(0, -1, lane), LOST, 0);
        }
        for (int lane : new int[] {0, 2}) fails(x, "cell(1, -1, " + lane + ")", x.cell(1, -1, lane), LOST, 2);
        fails(x, "cell(0, -1, 0)", x.cell(0, -1, 0), LOST, 1);
        for (int i : new int[] {-1, 2, MIN, MAX}) fails(x, "cell(1, " + i + ", 1)", x.cell(1, i, 1), LOST, 3);
        fails(x, "cell(1, 0, 1)", x.cell(1, 0, 1), -5, 0);
        fails(x, "cell(1, 1, 1)", x.cell(1, 1, 1), 6, 0);
    }

    private static void copies() {
        SpanWidths x = new SpanWidths();
        Due.write(x, 0, Due.BYTES, 1, 2, 3, 4, 5);
        Due.write(x, 1, Due.BYTES, 9, 9, 9);
        fails(x, "copy", x.copy(0, 1, 1, 0, 2), 2, 0);
        rowIs(x, 1, 0, 2, 3, 9);
        rowIs(x, 0, 0, 1, 2, 3, 4, 5);
        D.due("onto itself, ahead", x.copy(0, 0, 0, 1, 4), 4);
        rowIs(x, 0, 0, 1, 1, 2, 3, 4);
        D.due("onto itself, back", x.copy(0, 1, 0, 0, 4), 4);
        rowIs(x, 0, 0, 1, 2, 3, 4, 4);
        D.due("none, at both ends", x.copy(0, 5, 1, 3, 0), 0);
        D.due("all", x.copy(1, 0, 0, 2, 3), 3);
        rowIs(x, 0, 0, 1, 2, 2, 3, 9);
    }

    private static void rowIs(SpanWidths x, int k, int lane, int... want) {
        for (int i = 0; i < want.length; i++) D.due("cell " + i + " of " + k, x.cell(k, i, lane), want[i]);
        D.due("no more of " + k, x.cell(k, want.length, lane), LOST);
    }

    private static void copyFaults() {
        SpanWidths x = new SpanWidths();
        Due.write(x, 0, Due.BYTES, 1, 2, 3);
        Due.write(x, 1, Due.BYTES, 4, 5);
        Due.write(x, 2, Due.INTS, 6, 7);
        for (int k : new int[] {-1, 4, MIN, MAX}) {
            x.put(3, 0, 0);
            fails(x, "copy(" + k + ", ..)", x.copy(k, -1, 3, 0, 0), -1, 0);
            fails(x, "copy(.., " + k + ")", x.copy(3, -1, k, 0, 0), -1, 0);
        }
        fails(x, "of nothing", x.copy(3, -1, 0, 0, 0), -11, 1);
        fails(x, "to nothing", x.copy(0, -1, 3, 0, 0), -11, 1);
        fails(x, "nothing to itself", x.copy(3, 0, 3, 0, 0), -11, 1);
        fails(x, "unlike", x.copy(0, -1, 2, -1, -1), -12, 2);
        fails(x, "unlike", x.copy(2, 0, 0, 0, 0), -12, 2);
        int[][] beyond = {{-1, 0, 0}, {0, -1, 0}, {0, 0, -1}, {4, 0, 0}, {0, 3, 0}, {0, 0, 3}, {2, 0, 2}, {0, 1, 2},
            {MAX, 0, 1}, {0, MAX, 1}, {1, 1, MAX}, {MAX, MAX, MAX}, {MIN, 0, 0}, {0, MIN, 0}, {0, 0, MIN}, {3, 0, 1}, {0, 2, 1}};
        for (int[] b : beyond) {
            fails(x, "copy(0, " + b[0] + ", 1, " + b[1] + ", " + b[2] + ")", x.copy(0, b[0], 1, b[1], b[2]), -13, 3);
        }
        rowIs(x, 0, 0, 1, 2, 3);
        rowIs(x, 1, 0, 4, 5);
    }

    private static void tellings() {
        SpanWidths x = Due.of("t1;p0145;f0136;d0129");
        D.due("plain", x.tell(0), 4);
        D.due("1", x.trace(), 1);
        D.due("framed", x.tell(1), 103);
        D.due("1 2 1", x.trace(), (1 * 31 + 2) * 31 + 1);
        SpanWidths y = Due.of("t1;d0129");
        D.due("double", y.tell(0), 104);
        D.due("3 2 1 1", y.trace(), ((3 * 31 + 2) * 31 + 1) * 31 + 1);
        for (int c : new int[] {-1, 1, MIN, MAX}) D.due("tell(" + c + ")", y.tell(c), -1);
        D.due("refusals leave nothing", y.trace(), ((3 * 31 + 2) * 31 + 1) * 31 + 1);
        y.content(0, 0, 1);
        D.due("LOW is 0", y.tell(0), 100);
        D.due("no table", new SpanWidths().tell(0), -1);
    }

    private static void prints() {
        SpanWidths x = Due.of("t1;p0145;f0136;d0129");
        D.due("plain", x.print(0), 5);
        D.due("4", x.trace(), 4);
        D.due("framed", x.print(1), 6);
        D.due("4 4", x.trace(), 4 * 31 + 4);
        D.due("double", x.print(2), 70);
        D.due("4 4 5", x.trace(), (4 * 31 + 4) * 31 + 5);
        for (int c : new int[] {-1, 3, MIN, MAX}) D.due("print(" + c + ")", x.print(c), -1);
        D.due("refusals leave nothing", x.trace(), (4 * 31 + 4) * 31 + 5);
        D.due("no table", new SpanWidths().print(0), -1);
    }

    private static void traces() {
        SpanWidths x = Due.of("t1;d0129");
        int trace = 0;
        for (int k = 0; k < 20; k++) {
            x.tell(0);
            x.print(0);
            for (int body : new int[] {3, 2, 1, 1, 5}) trace = trace * 31 + body;
            D.due("wraps", x.trace(), trace);
        }
        x.kinds(0);
        x.as(0, 2);
        x.day(3, 0, 0, 0, 0, 0);
        D.due("others leave nothing", x.trace(), trace);
    }

    private static void takenAs() {
        SpanWidths x = Due.of("t1;p0100;f0100;d0100");
        for (int c = 0; c < 3; c++) {
            for (int kind = 0; kind < 3; kind++) {
                boolean is = kind <= c;
                fails(x, "as(" + c + ", " + kind + ")", x.as(c, kind), is ? 1 : -12, is ? 0 : 2);
            }
            for (int kind : new int[] {-1, 3, MIN, MAX}) {
                x.as(0, 2);
                fails(x, "as(" + c + ", " + kind + ")", x.as(c, kind), -2, 0);
            }
        }
        for (int c : new int[] {-1, 3, MIN, MAX}) {
            x.as(0, 2);
            fails(x, "as(" + c + ", 3)", x.as(c, 3), -1, 0);
        }
        D.due("no table", new SpanWidths().as(0, 3), -1);
        D.due("its kind stays", x.ofCell(2, 0), 2);
    }

    /** fault() stays with every call that names none. */
    private static void faults() {
        SpanWidths x = Due.of(THREE);
        D.due("ahead of any", new SpanWidths().fault(), 0);
        D.due("a fault", x.sheet(0, 0, -1), -14);
        x.ofCell(9, 0);
        x.ofColumn(9, 0);
        x.content(9, 0, 0);
        x.content(0, 1, 2);
        x.promise(0, 1);
        x.manner(5);
        x.width(0, 5);
        x.whole(5, 0);
        x.firstFit(0);
        x.share(0, 5);
        x.mean(5);
        x.reading(5, 0, 0);
        x.back(1);
        x.kinds(0);
        x.lows(0);
        x.manners();
        x.odds(0, 5, 0);
        x.lose(0);
        x.tell(0);
        x.print(0);
        x.trace();
        x.many(0);
        x.many(9);
        D.due("stays", x.fault(), 4);
        D.due("stays when told", x.fault(), 4);
        D.due("a text that is none", x.table(3, 0, 0, 1), -101);
        D.due("is no fault", x.fault(), 0);
    }

    private static void howMany() {
        SpanWidths x = Due.of(THREE);
        x.reading(1, 1, 1);
        x.reading(1, 1, 1);
        x.manner(1);
        int[] want = {3, 5, 7, 13, 2, 1};
        for (int what = 0; what < 6; what++) D.due("many(" + what + ")", x.many(what), want[what]);
        for (int what : new int[] {-1, 6, MIN, MAX}) {
            D.due("many(" + what + ")", x.many(what), -2);
            D.due("no table, many(" + what + ")", new SpanWidths().many(what), -2);
        }
    }
}
