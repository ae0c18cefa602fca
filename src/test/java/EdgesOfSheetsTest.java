/** Promises 20 to 30, and what Terms say of SHEETS, LANES, TELLING and FAULTS: each sentence that names an edge, one by one. */
public final class EdgesOfSheetsTest {
    private static final Due D = new Due("EdgesOfSheetsTest");
    private static final int MIN = Due.MIN, MAX = Due.MAX;
    private static final long LOST = SpanWidths.LOST;

    public static void main(String[] args) {
        sheetsAtFirst();
        lengths();
        newRows();
        sheetRefused();
        cuts();
        losses();
        puts();
        cellsTakenAs();
        cellsOfNothing();
        cellsOfIndex();
        copies();
        copiesOntoThemselves();
        copiesAreNoCuts();
        copyRefused();
        copyOfIndex();
        tellings();
        prints();
        traceWraps();
        traceOfOthers();
        asKinds();
        asRefused();
        faultAheadOfAny();
        faultOfEach();
        faultOfLatest();
        howMany();
        theLastCall();
        D.end();
    }

    private static void rowIs(SpanWidths x, int k, int lane, int... want) {
        for (int i = 0; i < want.length; i++) D.due("cell " + i + " of SHEET " + k, x.cell(k, i, lane), want[i]);
        D.due(x, "behind the last of SHEET " + k, x.cell(k, want.length, lane), LOST, 3);
    }

    // ---- sheets

    private static void sheetsAtFirst() {
        D.by("SHEETS 0 .. 3 have nothing (at first)");
        SpanWidths x = new SpanWidths();
        for (int k = 0; k <= 3; k++) {
            for (int lane = 0; lane < 3; lane++) D.due(x, "cell(" + k + ", 0, " + lane + ")", x.cell(k, 0, lane), LOST, 1);
            D.due("lose(" + k + ")", x.lose(k), 0);
        }
        for (int k : Due.not(0, 3)) {
            D.due("sheet(" + k + ", 0, 0)", x.sheet(k, 0, 0), -1);
            D.due("lose(" + k + ")", x.lose(k), -1);
            D.due("put(" + k + ", 0, 0)", x.put(k, 0, 0), -1);
            D.due(x, "cell(" + k + ", 0, 0)", x.cell(k, 0, 0), LOST, 0);
        }
    }

    private static void lengths() {
        D.by("or a row of 0 .. 60 numbers (0 at first) of a LANE");
        SpanWidths x = new SpanWidths();
        for (int n : new int[] {0, 1, 59, 60}) {
            for (int lane = 0; lane < 3; lane++) {
                D.due(x, "sheet(0, " + lane + ", " + n + ")", x.sheet(0, lane, n), 1, 0);
                D.due(x, "the last of " + n, x.cell(0, n - 1, lane), n == 0 ? LOST : 0, n == 0 ? 3 : 0);
                D.due(x, "the first of " + n, x.cell(0, 0, lane), n == 0 ? LOST : 0, n == 0 ? 3 : 0);
                D.due(x, "behind the last of " + n, x.cell(0, n, lane), LOST, 3);
            }
        }
        D.due("a row of 0 numbers is not nothing", x.sheet(1, 2, 0), 1);
        D.due("lose", x.lose(1), 1);
    }

    private static void newRows() {
        D.by("A SHEET gets a new row: 1.");
        SpanWidths x = new SpanWidths();
        x.sheet(0, Due.INTS, 60);
        for (int i = 0; i < 60; i++) x.put(0, i, MAX - i);
        x.sheet(0, Due.INTS, 1);
        rowIs(x, 0, Due.INTS, 0);
        x.sheet(0, Due.INTS, 60);
        for (int i = 0; i < 60; i++) D.due("0 at first: " + i, x.cell(0, i, Due.INTS), 0);
        Due.write(x, 1, Due.BYTES, 1, 2);
        x.sheet(0, Due.SHORTS, 2);
        rowIs(x, 1, Due.BYTES, 1, 2);
    }

    private static void sheetRefused() {
        D.by("UNKNOWN; OUTSIDE: lane, n above 60; SIZE.");
        SpanWidths x = new SpanWidths();
        Due.write(x, 0, Due.SHORTS, 7);
        for (int k = 0; k <= 3; k++) D.due("sheet(" + k + ", 2, 60)", x.sheet(k, 2, 60), 1);
        Due.write(x, 0, Due.SHORTS, 7);
        for (int k : Due.not(0, 3)) {
            D.due(x, "UNKNOWN ahead of OUTSIDE", x.sheet(k, 3, 61), -1, 0);
            D.due(x, "UNKNOWN ahead of SIZE", x.sheet(k, 0, -1), -1, 0);
        }
        for (int lane : Due.not(0, 2)) D.due(x, "OUTSIDE ahead of SIZE", x.sheet(0, lane, -1), -2, 0);
        for (int n : new int[] {61, 62, MAX}) D.due(x, "n " + n, x.sheet(0, 0, n), -2, 0);
        for (int n : new int[] {-1, -2, MIN}) D.due(x, "n " + n, x.sheet(0, 0, n), -14, 4);
        rowIs(x, 0, Due.SHORTS, 7);
    }

    private static void cuts() {
        D.by("what comes to a cell of it is cut to its LANE");
        int[] put = {127, 128, -128, -129, 255, 256, 32767, 32768, -32768, -32769, 65535, 65536, MAX, MIN, -1, 0};
        int[] asByte = {127, -128, -128, 127, -1, 0, -1, 0, 0, -1, -1, 0, -1, 0, -1, 0};
        int[] asShort = {127, 128, -128, -129, 255, 256, 32767, -32768, -32768, 32767, -1, 0, -1, 0, -1, 0};
        SpanWidths x = new SpanWidths();
        Due.write(x, 0, Due.BYTES, put);
        Due.write(x, 1, Due.SHORTS, put);
        Due.write(x, 2, Due.INTS, put);
        rowIs(x, 0, Due.BYTES, asByte);
        rowIs(x, 1, Due.SHORTS, asShort);
        rowIs(x, 2, Due.INTS, put);
    }

    private static void losses() {
        D.by("A SHEET has nothing: 1; 0: it had nothing. UNKNOWN.");
        SpanWidths x = new SpanWidths();
        for (int k = 0; k <= 3; k++) {
            D.due("had nothing", x.lose(k), 0);
            x.sheet(k, 0, 0);
            D.due("had a row of 0 numbers", x.lose(k), 1);
            D.due("has nothing", x.lose(k), 0);
            x.sheet(k, 2, 60);
            D.due("had a row of 60", x.lose(k), 1);
            D.due("has nothing", x.lose(k), 0);
            D.due(x, "put", x.put(k, 0, 0), -11, 1);
        }
        Due.write(x, 1, 0, 5);
        x.lose(0);
        x.lose(2);
        rowIs(x, 1, 0, 5);
        for (int k : Due.not(0, 3)) D.due("lose(" + k + ")", x.lose(k), -1);
    }

    private static void puts() {
        D.by("Cell i of a SHEET becomes v: 1. UNKNOWN; NULL; INDEX.");
        SpanWidths x = new SpanWidths();
        for (int k : Due.not(0, 3)) D.due(x, "UNKNOWN ahead of NULL", x.put(k, -1, 0), -1, 0);
        for (int i : new int[] {-1, 0, 60, MIN, MAX}) D.due(x, "NULL ahead of INDEX", x.put(0, i, 0), -11, 1);
        for (int n : new int[] {0, 1, 60}) {
            x.sheet(3, Due.INTS, n);
            for (int i : new int[] {-1, n, 61, MIN, MAX}) D.due(x, "put(3, " + i + ", 9) of " + n, x.put(3, i, 9), -13, 3);
            for (int i : new int[] {0, n - 1}) {
                D.due(x, "put(3, " + i + ", 9) of " + n, x.put(3, i, MIN + i), n == 0 ? -13 : 1, n == 0 ? 3 : 0);
                D.due("what came there", x.cell(3, i, Due.INTS), n == 0 ? LOST : MIN + i);
            }
        }
        Due.write(x, 1, Due.INTS, 1, 2, 3);
        x.put(1, 1, 7);
        rowIs(x, 1, Due.INTS, 1, 7, 3);
    }

    private static void cellsTakenAs() {
        D.by("Cell i of what a SHEET has, taken as a row of a LANE. LOST: UNKNOWN, OUTSIDE: lane; FAULTS CAST (nothing is no CAST), NULL, INDEX.");
        SpanWidths x = new SpanWidths();
        for (int is = 0; is < 3; is++) {
            for (int n = 0; n <= 1; n++) {
                x.sheet(is, is, n);
                for (int lane = 0; lane < 3; lane++) {
                    boolean same = lane == is;
                    D.due(x, "CAST ahead of INDEX: " + is + " as " + lane, x.cell(is, -1, lane), LOST, same ? 3 : 2);
                    D.due(x, is + " as " + lane, x.cell(is, 0, lane), same && n == 1 ? 0 : LOST, !same ? 2 : n == 0 ? 3 : 0);
                }
                for (int lane : Due.not(0, 2)) D.due(x, "OUTSIDE ahead of FAULTS", x.cell(is, -1, lane), LOST, 0);
            }
        }
        for (int k : Due.not(0, 3)) {
            D.due(x, "UNKNOWN", x.cell(k, 0, 0), LOST, 0);
            D.due(x, "UNKNOWN and all else", x.cell(k, -1, 3), LOST, 0);
        }
    }

    private static void cellsOfNothing() {
        D.by("FAULTS CAST (nothing is no CAST), NULL, INDEX");
        SpanWidths x = new SpanWidths();
        for (int lane = 0; lane < 3; lane++) {
            D.due(x, "nothing at first", x.cell(3, 0, lane), LOST, 1);
            x.sheet(0, lane, 4);
            x.lose(0);
            for (int as = 0; as < 3; as++) D.due(x, "a row of LANE " + lane + " lost", x.cell(0, -1, as), LOST, 1);
        }
        for (int lane : Due.not(0, 2)) D.due(x, "OUTSIDE ahead of NULL", x.cell(3, 0, lane), LOST, 0);
    }

    private static void cellsOfIndex() {
        D.by("3 INDEX");
        SpanWidths x = new SpanWidths();
        for (int n : new int[] {0, 1, 2, 60}) {
            x.sheet(0, Due.BYTES, n);
            for (int i : new int[] {-1, n, n + 1, MIN, MAX}) D.due(x, "cell " + i + " of " + n, x.cell(0, i, 0), LOST, 3);
            if (n > 0) D.due(x, "the last of " + n, x.cell(0, n - 1, 0), 0, 0);
        }
        Due.write(x, 1, Due.INTS, MIN, MAX);
        D.due(x, "an int's least is not LOST", x.cell(1, 0, 2), MIN, 0);
        D.due(x, "an int's greatest", x.cell(1, 1, 2), MAX, 0);
    }

    // ---- copies

    private static void copies() {
        D.by("n cells of a SHEET from i on go to another one (perhaps the same) from j on, as they were: n.");
        SpanWidths x = new SpanWidths();
        Due.write(x, 0, Due.INTS, 1, 2, 3);
        Due.write(x, 1, Due.INTS, 7, 8, 9, 10);
        D.due(x, "none", x.copy(0, 0, 1, 0, 0), 0, 0);
        rowIs(x, 1, 2, 7, 8, 9, 10);
        D.due(x, "one, from last to last", x.copy(0, 2, 1, 3, 1), 1, 0);
        rowIs(x, 1, 2, 7, 8, 9, 3);
        D.due(x, "all, to the end", x.copy(0, 0, 1, 1, 3), 3, 0);
        rowIs(x, 1, 2, 7, 1, 2, 3);
        rowIs(x, 0, 2, 1, 2, 3);
        x.sheet(2, Due.BYTES, 60);
        x.sheet(3, Due.BYTES, 60);
        x.put(2, 0, 5);
        x.put(2, 59, 6);
        D.due(x, "60", x.copy(2, 0, 3, 0, 60), 60, 0);
        D.due("the first of 60", x.cell(3, 0, 0), 5);
        D.due("the last of 60", x.cell(3, 59, 0), 6);
    }

    private static void copiesOntoThemselves() {
        D.by("(perhaps the same) from j on, as they were");
        SpanWidths x = new SpanWidths();
        for (int lane = 0; lane < 3; lane++) {
            Due.write(x, lane, lane, 1, 2, 3, 4, 5);
            D.due(x, "up by 1", x.copy(lane, 0, lane, 1, 4), 4, 0);
            rowIs(x, lane, lane, 1, 1, 2, 3, 4);
            D.due(x, "down by 2", x.copy(lane, 2, lane, 0, 3), 3, 0);
            rowIs(x, lane, lane, 2, 3, 4, 3, 4);
            D.due(x, "onto the very same", x.copy(lane, 0, lane, 0, 5), 5, 0);
            rowIs(x, lane, lane, 2, 3, 4, 3, 4);
        }
    }

    private static void copiesAreNoCuts() {
        D.by("CAST (unlike LANES)");
        SpanWidths x = new SpanWidths();
        for (int lane = 0; lane < 3; lane++) Due.write(x, lane, lane, 1);
        for (int from = 0; from < 3; from++) {
            for (int to = 0; to < 3; to++) {
                boolean same = from == to;
                D.due(x, from + " to " + to, x.copy(from, 0, to, 0, 1), same ? 1 : -12, same ? 0 : 2);
                D.due(x, "none of " + from + " to " + to, x.copy(from, 0, to, 0, 0), same ? 0 : -12, same ? 0 : 2);
            }
        }
    }

    private static void copyRefused() {
        D.by("UNKNOWN; FAULTS NULL (the first, the other), CAST (unlike LANES), INDEX: i, j, n below 0 or beyond.");
        SpanWidths x = new SpanWidths();
        x.sheet(0, Due.BYTES, 2);
        x.sheet(1, Due.INTS, 0);
        for (int k : Due.not(0, 3)) {
            D.due(x, "UNKNOWN ahead of NULL: the first", x.copy(k, -1, 3, -1, -1), -1, 0);
            D.due(x, "UNKNOWN ahead of NULL: the other", x.copy(3, -1, k, -1, -1), -1, 0);
            D.due(x, "both", x.copy(k, 0, k, 0, 0), -1, 0);
        }
        D.due(x, "NULL ahead of INDEX: the first", x.copy(3, -1, 0, -1, -1), -11, 1);
        D.due(x, "NULL ahead of INDEX: the other", x.copy(0, -1, 3, -1, -1), -11, 1);
        D.due(x, "NULL: both", x.copy(2, 0, 3, 0, 0), -11, 1);
        D.due(x, "NULL: itself", x.copy(3, 0, 3, 0, 0), -11, 1);
        x.sheet(2, Due.INTS, 2);
        x.lose(2);
        D.due(x, "NULL ahead of CAST: what was lost was of another LANE", x.copy(0, 0, 2, 0, 0), -11, 1);
        D.due(x, "CAST ahead of INDEX", x.copy(0, -1, 1, -1, -1), -12, 2);
        D.due(x, "CAST of a row of 0 numbers", x.copy(1, 0, 0, 0, 0), -12, 2);
    }

    private static void copyOfIndex() {
        D.by("INDEX: i, j, n below 0 or beyond.");
        for (int from = 0; from <= 2; from++) {
            for (int to = 0; to <= 2; to++) {
                SpanWidths x = new SpanWidths();
                x.sheet(0, 1, from);
                x.sheet(1, 1, to);
                for (int i = -1; i <= from + 1; i++) {
                    for (int j = -1; j <= to + 1; j++) {
                        for (int n = -1; n <= 3; n++) {
                            boolean there = i >= 0 && j >= 0 && n >= 0 && i + n <= from && j + n <= to;
                            D.due(x, n + " from " + i + " of " + from + " to " + j + " of " + to,
                                x.copy(0, i, 1, j, n), there ? n : -13, there ? 0 : 3);
                        }
                    }
                }
            }
        }
        SpanWidths x = new SpanWidths();
        x.sheet(0, 1, 60);
        x.sheet(1, 1, 60);
        int[][] wraps = {{MAX, 0, 1}, {0, MAX, 1}, {1, 0, MAX}, {0, 1, MAX}, {MAX, MAX, MAX}, {MAX, 0, MAX}, {MIN, 0, MIN}, {MIN, 0, MAX},
            {0, MIN, MAX}, {MIN, MIN, MIN}, {0, 0, MIN}, {0, 0, MAX}, {MAX, 0, 0}, {0, MAX, 0}, {MIN, 0, 0}, {0, MIN, 0}, {61, 0, -1}, {0, 61, -1}};
        for (int[] w : wraps) D.due(x, "copy(0, " + w[0] + ", 1, " + w[1] + ", " + w[2] + ")", x.copy(0, w[0], 1, w[1], w[2]), -13, 3);
    }

    // ---- bodies

    private static void tellings() {
        D.by("PLAIN (1): LOW. FRAMED (2): what PLAIN's gives, and 100. DOUBLE (3): what FRAMED's gives, and what PLAIN's gives (FRAMED's left out).");
        String[] kinds = {"p", "f", "d"};
        int[] of0 = {0, 100, 100}, of9 = {9, 109, 118};
        int[] trace = {1, 2 * 31 + 1, ((3 * 31 + 2) * 31 + 1) * 31 + 1};
        for (int kind = 0; kind < 3; kind++) {
            SpanWidths x = Due.of("t1;" + kinds[kind] + "0109");
            D.due("LOW 0 of " + kinds[kind], x.tell(0), of0[kind]);
            D.due("TRACE of " + kinds[kind], x.trace(), trace[kind]);
            x.content(0, 9, 9);
            D.due("LOW 9 of " + kinds[kind], x.tell(0), of9[kind]);
        }
        D.by("TELLING of a CELL. UNKNOWN.");
        SpanWidths nine = Due.of("t1" + ";p0100".repeat(8) + ";p0177");
        D.due("the ninth", nine.tell(8), 7);
        for (int c : Due.not(0, 8)) D.due("tell(" + c + ")", nine.tell(c), -1);
        D.due("no body began", nine.trace(), 1);
        D.due("of no TABLE", new SpanWidths().tell(0), -1);
    }

    private static void prints() {
        D.by("PRINTED by a lent body (4): HIGH; DOUBLE ones have their own (5): 70.");
        String[] kinds = {"p", "f", "d"};
        for (int kind = 0; kind < 3; kind++) {
            SpanWidths x = Due.of("t1;" + kinds[kind] + "0100");
            D.due("HIGH 0 of " + kinds[kind], x.print(0), kind == 2 ? 70 : 0);
            D.due("TRACE of " + kinds[kind], x.trace(), kind == 2 ? 5 : 4);
            x.content(0, 0, 9);
            D.due("HIGH 9 of " + kinds[kind], x.print(0), kind == 2 ? 70 : 9);
        }
        D.by("How it is PRINTED. UNKNOWN.");
        SpanWidths nine = Due.of("t1" + ";p0100".repeat(8) + ";p0107");
        D.due("the ninth", nine.print(8), 7);
        for (int c : Due.not(0, 8)) D.due("print(" + c + ")", nine.print(c), -1);
        D.due("no body began", nine.trace(), 4);
        D.due("of no TABLE", new SpanWidths().print(0), -1);
    }

    private static void traceWraps() {
        D.by("TRACE (an int that wraps, 0 at first, becomes 31 times it and the number)");
        SpanWidths x = Due.of("t1;p0100;d0100");
        int[] want = {0, 1, 32, 993, 30784, 954305, 29583456, 917087137, -1635069824};
        for (int k = 0; k < want.length; k++) {
            D.due("after " + k, x.trace(), want[k]);
            x.tell(0);
        }
        SpanWidths y = Due.of("t1;d0100");
        long trace = 0;
        for (int k = 0; k < 60; k++) {
            D.due("DOUBLE told", y.tell(0), 100);
            D.due("DOUBLE printed", y.print(0), 70);
            // by long numbers, cut after each body
            for (int body : new int[] {3, 2, 1, 1, 5}) trace = (int) (31 * trace + body);
            D.due("after " + k, y.trace(), trace);
        }
    }

    private static void traceOfOthers() {
        D.by("bodies that leave their number in TRACE");
        SpanWidths x = Due.of("t1;p0100");
        x.tell(0);
        x.print(0);
        x.as(0, 0);
        x.as(0, 2);
        x.kinds(0);
        x.lows(0);
        x.ofCell(0, 4);
        x.content(0, 1, 1);
        x.table(3, 0, 0, 8);
        x.table(3, 0, 0, 7);
        x.day(3, 0, 0, 0, 0, 0);
        D.due("no other call leaves any", x.trace(), 35);
        D.due("nor asking for it", x.trace(), 35);
    }

    private static void asKinds() {
        D.by("CAST: it is none (each is a PLAIN one, too; a DOUBLE one is a FRAMED one).");
        SpanWidths x = Due.of("t1;p0100;f0100;d0100");
        int[][] want = {{1, -12, -12}, {1, 1, -12}, {1, 1, 1}};
        for (int c = 0; c < 3; c++) {
            for (int kind = 0; kind < 3; kind++) {
                D.due(x, "as(" + c + ", " + kind + ")", x.as(c, kind), want[c][kind], want[c][kind] == 1 ? 0 : 2);
            }
        }
    }

    private static void asRefused() {
        D.by("A CELL, taken as one of a kind: 1. UNKNOWN; OUTSIDE; CAST");
        SpanWidths x = Due.of("t1" + ";p0100".repeat(8) + ";d0100");
        D.due(x, "as(8, 2)", x.as(8, 2), 1, 0);
        D.due(x, "as(0, 0)", x.as(0, 0), 1, 0);
        for (int c : Due.not(0, 8)) {
            x.as(0, 2);
            D.due(x, "UNKNOWN ahead of OUTSIDE", x.as(c, 3), -1, 0);
            D.due(x, "as(" + c + ", 0)", x.as(c, 0), -1, 0);
        }
        for (int kind : Due.not(0, 2)) {
            x.as(0, 2);
            D.due(x, "OUTSIDE, of a PLAIN one, too: " + kind, x.as(0, kind), -2, 0);
            D.due(x, "OUTSIDE, of a DOUBLE one: " + kind, x.as(8, kind), -2, 0);
        }
        SpanWidths none = new SpanWidths();
        D.due(none, "of no TABLE", none.as(0, 3), -1, 0);
    }

    // ---- faults

    private static void faultAheadOfAny() {
        D.by("0: it came to none, or was refused (0 ahead of any)");
        SpanWidths x = new SpanWidths();
        D.due("ahead of any", x.fault(), 0);
        x.lose(9);
        x.many(9);
        x.ofCell(0, 0);
        x.manner(0);
        D.due("calls that name none", x.fault(), 0);
    }

    /** A fault of each call that names it; between them each is refused once, and taken once. */
    private static void faultOfEach() {
        D.by("it answers -10 less it (LOST, where a long is answered, as for refusals) and changes nothing; fault() tells it");
        SpanWidths x = Due.of("t1;p0100");
        x.sheet(0, Due.BYTES, 2);
        x.sheet(1, Due.INTS, 2);
        D.due(x, "table NULL", x.table(2, 0, 0, 0), -11, 1);
        D.due(x, "table refused", x.table(4, 0, 0, 0), -1, 0);
        D.due(x, "table CAST", x.table(0, 1, 0, 0), -12, 2);
        D.due(x, "table OUTSIDE", x.table(0, 3, 0, 0), -2, 0);
        D.due(x, "table INDEX", x.table(0, 0, 3, 0), -13, 3);
        D.due(x, "table taken", x.table(3, 0, 0, 8), 1, 0);
        D.due(x, "table SIZE", x.table(0, 0, 0, -1), -14, 4);
        D.due(x, "table not taken", x.table(0, 0, 0, 0), -100, 0);
        D.due(x, "day NULL", x.day(2, 0, 0, 0, 0, 0), -11, 1);
        D.due(x, "day refused", x.day(4, 0, 0, 0, 0, 0), -1, 0);
        D.due(x, "day CAST", x.day(0, 1, 0, 0, 0, 0), -12, 2);
        D.due(x, "day OUTSIDE", x.day(0, 0, 0, 21, 0, 0), -2, 0);
        D.due(x, "day INDEX", x.day(0, 0, 1, 1, 0, 0), -13, 3);
        D.due(x, "day told", x.day(0, 0, 0, 1, 0, 0), 0, 0);
        D.due(x, "sheet SIZE", x.sheet(2, 0, -1), -14, 4);
        D.due(x, "sheet refused", x.sheet(4, 0, -1), -1, 0);
        D.due(x, "put NULL", x.put(2, 0, 0), -11, 1);
        D.due(x, "put refused", x.put(4, 0, 0), -1, 0);
        D.due(x, "put INDEX", x.put(0, 2, 0), -13, 3);
        D.due(x, "put taken", x.put(0, 1, 0), 1, 0);
        D.due(x, "cell NULL", x.cell(2, 0, 0), LOST, 1);
        D.due(x, "cell refused", x.cell(4, 0, 0), LOST, 0);
        D.due(x, "cell CAST", x.cell(0, 0, 1), LOST, 2);
        D.due(x, "cell OUTSIDE", x.cell(0, 0, 3), LOST, 0);
        D.due(x, "cell INDEX", x.cell(0, 2, 0), LOST, 3);
        D.due(x, "cell told", x.cell(0, 1, 0), 0, 0);
        D.due(x, "copy NULL", x.copy(2, 0, 0, 0, 0), -11, 1);
        D.due(x, "copy refused", x.copy(4, 0, 0, 0, 0), -1, 0);
        D.due(x, "copy CAST", x.copy(1, 0, 0, 0, 0), -12, 2);
        D.due(x, "copy taken", x.copy(0, 0, 0, 1, 1), 1, 0);
        D.due(x, "copy INDEX", x.copy(0, 0, 0, 1, 2), -13, 3);
        D.due(x, "as taken", x.as(0, 0), 1, 0);
        D.due(x, "as CAST", x.as(0, 1), -12, 2);
        D.due(x, "as refused", x.as(1, 1), -1, 0);
        x.as(0, 1);
        D.due(x, "as OUTSIDE", x.as(0, 3), -2, 0);
    }

    private static void faultOfLatest() {
        D.by("The FAULT of the latest call that names one");
        SpanWidths x = Due.of("t1;p0100");
        D.due(x, "a FAULT", x.as(0, 2), -12, 2);
        D.due(x, "another", x.put(0, 0, 0), -11, 1);
        D.due("fault() again", x.fault(), 1);
        // all that name none, taken and refused
        D.due(x, "lose", x.lose(0), 0, 1);
        D.due(x, "lose refused", x.lose(4), -1, 1);
        D.due(x, "ofCell", x.ofCell(0, 0), 0, 1);
        D.due(x, "ofColumn refused", x.ofColumn(0, 4), -2, 1);
        D.due(x, "content", x.content(0, 0, 0), 0, 1);
        D.due(x, "promise", x.promise(0, 0), 0, 1);
        D.due(x, "manner refused", x.manner(3), -2, 1);
        D.due(x, "width", x.width(0, 0), 0, 1);
        D.due(x, "whole", x.whole(0, 0), 0, 1);
        D.due(x, "firstFit", x.firstFit(0), 0, 1);
        D.due(x, "share", x.share(0, 0), 0, 1);
        D.due(x, "mean refused", x.mean(100), LOST, 1);
        D.due(x, "reading", x.reading(0, 0, 0), 0, 1);
        D.due(x, "back", x.back(1), 0, 1);
        D.due(x, "kinds", x.kinds(0), 7, 1);
        D.due(x, "lows", x.lows(0), 1, 1);
        D.due(x, "manners", x.manners(), 7, 1);
        D.due(x, "odds refused", x.odds(0, 0, 2), LOST, 1);
        D.due(x, "tell", x.tell(0), 0, 1);
        D.due(x, "print refused", x.print(1), -1, 1);
        D.due(x, "trace", x.trace(), 1, 1);
        D.due(x, "many refused", x.many(6), -2, 1);
    }

    private static void howMany() {
        D.by("(0 all without a TABLE). OUTSIDE.");
        SpanWidths none = new SpanWidths();
        for (int what = 0; what <= 5; what++) D.due("of no TABLE, many(" + what + ")", none.many(what), 0);
        SpanWidths x = Due.of("t6;d0199;d1199;d2199;d3199;d4199;d5199;p0100;p0100;p0100");
        x.manner(2);
        for (int k = 0; k < 8; k++) x.reading(0, 0, 0);
        int[] want = {6, 9, 108, 108, 8, 2};
        for (int what = 0; what <= 5; what++) D.due("many(" + what + ")", x.many(what), want[what]);
        for (int what : Due.not(0, 5)) {
            D.due("many(" + what + ")", x.many(what), -2);
            D.due("of no TABLE, many(" + what + ")", none.many(what), -2);
        }
        D.due("a TEXT that isn't taken makes no TABLE", Due.tell(none, "t6;d019"), -107);
        for (int what = 0; what <= 5; what++) D.due("of no TABLE yet, many(" + what + ")", none.many(what), 0);
    }

    private static void theLastCall() {
        D.by("An object is used for at most 512 calls after it has been made");
        SpanWidths x = Due.of("t1;p0109");
        // 10 calls so far: sheet, 8 times put, table
        int trace = 0;
        for (int call = 11; call <= 511; call++) {
            x.tell(0);
            trace = 31 * trace + 1;
        }
        D.due("the 512th", x.trace(), trace);
    }
}
