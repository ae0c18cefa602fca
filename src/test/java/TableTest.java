/** Promises 1 to 7: a new object, table, ofCell, ofColumn, content, promise, manner. */
public final class TableTest {
    private static final Due D = new Due("TableTest");
    private static final int MIN = Integer.MIN_VALUE, MAX = Integer.MAX_VALUE;
    /** MUST 3 2 2, WOULD 5 4 4. */
    private static final String THREE = "t3;p0124;f1113;d2112;p0259;f0368";

    public static void main(String[] args) {
        newObject();
        textsTaken();
        firstFaults();
        tableRefusalsAndFaults();
        tableMakesAllAnew();
        cells();
        mustAndWould();
        columns();
        contents();
        promises();
        manners();
        D.end();
    }

    private static void newObject() {
        SpanWidths x = new SpanWidths();
        for (int what = 0; what <= 5; what++) D.due("new many(" + what + ")", x.many(what), 0);
        for (int k = 0; k < 4; k++) {
            D.due("new lose(" + k + ")", x.lose(k), 0);
            D.due("new cell(" + k + ", 0, 0)", x.cell(k, 0, 0), SpanWidths.LOST);
            D.due("new fault()", x.fault(), 1);
        }
        D.due("new fault() of another", new SpanWidths().fault(), 0);
        D.due("new trace()", x.trace(), 0);
        D.due("new ofCell", x.ofCell(0, 0), -1);
        D.due("new ofColumn", x.ofColumn(0, 0), -1);
        D.due("new manner", x.manner(0), -3);
        D.due("LOST", SpanWidths.LOST, Long.MIN_VALUE);
    }

    private static void textsTaken() {
        D.due("one cell", Due.tell(new SpanWidths(), "t1;p0100"), 1);
        D.due("five cells", Due.tell(new SpanWidths(), THREE), 5);
        D.due("nine cells", Due.tell(new SpanWidths(), "t6" + ";d3399".repeat(9)), 9);
        SpanWidths x = new SpanWidths();
        for (int lane = 0; lane < 3; lane++) {
            Due.writeText(x, 1, lane, "??t2;p0145;f1279");
            D.due("from the middle, too wide", x.table(1, lane, 2, 14), -100 - 11);
            D.due("from the middle", x.table(1, lane, 2, 8), 1);
            D.due("its columns", x.many(0), 2);
        }
        Due.write(x, 0, Due.BYTES, 't' + 256, '1' - 256, ';', 'p', '0', '1', '0', '0');
        D.due("cut to bytes", x.table(0, Due.BYTES, 0, 8), 1);
        Due.write(x, 0, Due.SHORTS, 't' + 256, '1', ';', 'p', '0', '1', '0', '0');
        D.due("not cut to bytes", x.table(0, Due.SHORTS, 0, 8), -100);
        Due.write(x, 0, Due.INTS, 't', '1', ';', 'p', '0', '1', '0' + 65536, '0');
        D.due("not cut to shorts", x.table(0, Due.INTS, 0, 8), -106);
    }

    private static void firstFaults() {
        String whole = "t2;p0145";
        for (int n = 0; n < whole.length(); n++) {
            D.due("ends after " + n, Due.tell(new SpanWidths(), whole.substring(0, n)), -100 - n);
            D.due("wrong at " + n, Due.tell(new SpanWidths(), whole.substring(0, n) + "x" + whole.substring(n + 1)), -100 - n);
            D.due("again at " + n, Due.tell(new SpanWidths(), whole + whole.substring(0, n)), n == 0 ? 1 : -108);
        }
        String[] wrong = {"T2;p0145", "t0;p0145", "t7;p0145", "t2:p0145", "t2;P0145", "t2;e0145", "t2;p2145", "t2;p/145",
            "t2;p0045", "t2;p0345", "t2;p1245", "t6;p0445", "t2;p01:5", "t2;p01/5", "t2;p0154", "t2;p014:", "t2;p0145 ", "t2;p0145p"};
        int[] place = {0, 1, 1, 2, 3, 3, 4, 4, 5, 5, 5, 5, 6, 6, 7, 7, 8, 8};
        for (int k = 0; k < wrong.length; k++) D.due(wrong[k], Due.tell(new SpanWidths(), wrong[k]), -100 - place[k]);
        D.due("low is high", Due.tell(new SpanWidths(), "t2;p0155"), 1);
        D.due("9 9", Due.tell(new SpanWidths(), "t2;p0199"), 1);
        D.due("over three of six", Due.tell(new SpanWidths(), "t6;p3300"), 1);
        D.due("over three from four on", Due.tell(new SpanWidths(), "t6;p4300"), -105);
        String nine = "t1" + ";p0100".repeat(9);
        D.due("a tenth", Due.tell(new SpanWidths(), nine + ";p01"), -156);
        D.due("a tenth's ;", Due.tell(new SpanWidths(), nine + ";"), -156);
        D.due("wrong ahead of too short", Due.tell(new SpanWidths(), "t1;x"), -103);
        SpanWidths x = new SpanWidths();
        for (int code : new int[] {MIN, MIN + 48, MAX, -1, 0, 48 + 256}) {
            Due.write(x, 0, Due.INTS, 't', code, ';', 'p', '0', '1', '0', '0');
            D.due("code " + code, x.table(0, Due.INTS, 0, 8), -101);
            Due.write(x, 0, Due.INTS, 't', '1', ';', 'p', code, '1', '0', '0');
            D.due("column code " + code, x.table(0, Due.INTS, 0, 8), -104);
        }
    }

    private static void tableRefusalsAndFaults() {
        SpanWidths x = Due.of(THREE);
        Due.writeText(x, 0, Due.SHORTS, "t1;p0100");
        for (int sheet : new int[] {-1, 4, MIN, MAX}) tableIs(x, sheet, 9, -1, -1, -1, 0);
        for (int lane : new int[] {-1, 3, MIN, MAX}) {
            tableIs(x, 0, lane, -1, -1, -2, 0);
            tableIs(x, 2, lane, -1, -1, -2, 0);
        }
        tableIs(x, 0, Due.BYTES, -1, -1, -12, 2);
        tableIs(x, 0, Due.INTS, 0, 8, -12, 2);
        tableIs(x, 2, Due.BYTES, -1, -1, -11, 1);
        for (int n : new int[] {-1, MIN}) tableIs(x, 0, Due.SHORTS, -1, n, -14, 4);
        int[][] beyond = {{-1, 0}, {-1, 1}, {9, 0}, {0, 9}, {8, 1}, {1, 8}, {MAX, MAX}, {1, MAX}, {MIN, MAX}, {MAX, 1}, {MIN, 0}};
        for (int[] cells : beyond) tableIs(x, 0, Due.SHORTS, cells[0], cells[1], -13, 3);
        tableIs(x, 0, Due.SHORTS, 8, 0, -100, 0);
        tableIs(x, 0, Due.SHORTS, 0, 0, -100, 0);
        tableIs(x, 0, Due.SHORTS, 1, 7, -100, 0);
        D.due("what was there stays", x.many(1), 5);
        tableIs(x, 0, Due.SHORTS, 0, 8, 1, 0);
    }

    private static void tableIs(SpanWidths x, int sheet, int lane, int i, int n, int want, int fault) {
        String call = "table(" + sheet + ", " + lane + ", " + i + ", " + n + ")";
        // a fault of another call, so that fault() is seen to be told anew
        x.sheet(1, 0, fault == 4 ? 0 : -1);
        D.due(call, x.table(sheet, lane, i, n), want);
        D.due(call + " fault()", x.fault(), fault);
    }

    private static void tableMakesAllAnew() {
        SpanWidths x = Due.of(THREE);
        x.promise(1, 4);
        x.manner(2);
        x.reading(5, 0, 3);
        x.kinds(0);
        int told = x.tell(0);
        int trace = x.trace();
        D.due("wrong text", Due.tell(x, "t3;p"), -104);
        D.due("promised stays", x.ofColumn(1, 2), 4);
        D.due("manner stays", x.many(5), 2);
        D.due("readings stay", x.many(4), 1);
        D.due("cells stay", x.many(1), 5);
        D.due("right text", Due.tell(x, "t2;p0145"), 1);
        D.due("columns anew", x.many(0), 2);
        D.due("cells anew", x.many(1), 1);
        D.due("promised anew", x.ofColumn(1, 2), 0);
        D.due("manner anew", x.many(5), 0);
        D.due("readings anew", x.many(4), 0);
        D.due("must anew", x.many(2), 4);
        D.due("would anew", x.many(3), 5);
        D.due("told", told, 2);
        D.due("trace stays", x.trace(), trace);
        D.due("sheets stay", x.cell(3, 0, 0), 't');
        D.due("of a column gone", x.ofColumn(2, 0), -1);
        D.due("cells gone aren't over it", x.ofColumn(0, 3), 1);
        D.due("cells gone aren't cramped", x.whole(0, 2), 1);
    }

    private static void cells() {
        SpanWidths x = Due.of(THREE);
        int[][] want = {{0, 1, 2, 4, 2, 4}, {1, 2, 1, 3, 2, 4}, {2, 4, 1, 2, 2, 4}, {0, 3, 5, 9, 5, 9}, {1, 7, 6, 8, 7, 9}};
        for (int c = 0; c < want.length; c++) {
            for (int what = 0; what < 6; what++) D.due("ofCell(" + c + ", " + what + ")", x.ofCell(c, what), want[c][what]);
            for (int what : new int[] {-1, 6, MIN, MAX}) D.due("ofCell(" + c + ", " + what + ")", x.ofCell(c, what), -2);
        }
        for (int c : new int[] {-1, 5, 9, MIN, MAX}) {
            D.due("ofCell(" + c + ", 0)", x.ofCell(c, 0), -1);
            D.due("ofCell(" + c + ", 6)", x.ofCell(c, 6), -1);
        }
        SpanWidths y = Due.of("t6;d3309;f5100");
        D.due("columns 3 to 5", y.ofCell(0, 1), 56);
        D.due("twice 0", y.ofCell(0, 4), 0);
        D.due("twice 9", y.ofCell(0, 5), 18);
        D.due("0 framed", y.ofCell(1, 4), 1);
    }

    private static void mustAndWould() {
        D.dueRow("must", Due.musts(Due.of(THREE)), 3, 2, 2);
        D.dueRow("would", Due.woulds(Due.of(THREE)), 5, 4, 4);
        D.dueRow("none", Due.musts(Due.of("t3;p1100")), 0, 0, 0);
        D.dueRow("greatest of several", Due.musts(Due.of("t2;p0125;f0123;p0111")), 3, 0);
        D.dueRow("greatest most of several", Due.woulds(Due.of("t2;p0125;f0123;p0111")), 5, 0);
        D.dueRow("the first of several", Due.musts(Due.of("t3;p0377")), 3, 2, 2);
        D.dueRow("the least first", Due.musts(Due.of("t3;p0133;p1122;p0377")), 3, 2, 2);
        // those over two go ahead of those over three, whatever their numbers: else it were 3 3 2
        D.dueRow("two ahead of three", Due.musts(Due.of("t3;p0377;p0266")), 3, 3, 1);
        D.dueRow("in the order of numbers", Due.musts(Due.of("t3;p0255;p1255")), 3, 3, 2);
        D.dueRow("in the other order", Due.musts(Due.of("t3;p1255;p0255")), 2, 3, 2);
        // WOULD begins with MUST as spread, not with what cells over one column alone have
        D.dueRow("would from must", Due.woulds(Due.of("t2;p0288;p0105")), 5, 4);
        D.dueRow("would no less than must", Due.woulds(Due.of("t2;p0279;f1100")), 5, 4);
        D.dueRow("would over three", Due.woulds(Due.of("t3;d0304")), 3, 3, 2);
        D.dueRow("all doubles", Due.musts(Due.of("t6;d0199;d1199;d2199;d3199;d4199;d5199")), 18, 18, 18, 18, 18, 18);
    }

    private static void columns() {
        SpanWidths x = Due.of(THREE);
        x.promise(1, 7);
        int[][] want = {{3, 5, 0, 25}, {2, 4, 7, 26}, {2, 4, 0, 20}};
        for (int q = 0; q < 3; q++) {
            for (int what = 0; what < 4; what++) D.due("ofColumn(" + q + ", " + what + ")", x.ofColumn(q, what), want[q][what]);
            for (int what : new int[] {-1, 4, MIN, MAX}) D.due("ofColumn(" + q + ", " + what + ")", x.ofColumn(q, what), -2);
        }
        for (int q : new int[] {-1, 3, 6, MIN, MAX}) {
            D.due("ofColumn(" + q + ", 0)", x.ofColumn(q, 0), -1);
            D.due("ofColumn(" + q + ", 4)", x.ofColumn(q, 4), -1);
        }
        D.due("no cell over it", Due.of("t2;p0100").ofColumn(1, 3), 0);
        D.due("nine over it", Due.of("t3" + ";p1209".repeat(9)).ofColumn(2, 3), 511);
    }

    private static void contents() {
        SpanWidths x = Due.of(THREE);
        D.due("content(0, 0, 9)", x.content(0, 0, 9), 24);
        D.due("low", x.ofCell(0, 2), 0);
        D.due("high", x.ofCell(0, 3), 9);
        D.dueRow("must then", Due.musts(x), 3, 2, 2);
        D.dueRow("would then", Due.woulds(x), 9, 4, 4);
        D.due("content(0, 9, 9)", x.content(0, 9, 9), 9);
        D.dueRow("must then", Due.musts(x), 9, 2, 2);
        D.due("content(4, 0, 0)", x.content(4, 0, 0), 68);
        D.due("content(4, 3, 3)", x.content(4, 3, 3), 0);
        int[][] outside = {{-1, 0}, {0, -1}, {-1, -1}, {1, 0}, {9, 8}, {0, 10}, {10, 10}, {MIN, MAX}, {MAX, MIN}};
        for (int[] vw : outside) D.due("content(4, " + vw[0] + ", " + vw[1] + ")", x.content(4, vw[0], vw[1]), -2);
        for (int c : new int[] {-1, 5, MIN, MAX}) {
            D.due("content(" + c + ", 0, 0)", x.content(c, 0, 0), -1);
            D.due("content(" + c + ", 1, 0)", x.content(c, 1, 0), -1);
        }
        D.due("refusals change nothing", x.content(4, 1, 2), 33);
        x.reading(0, 0, 9);
        x.content(4, 0, 0);
        D.due("readings stay", x.many(4), 1);
    }

    private static void promises() {
        SpanWidths x = Due.of(THREE);
        D.due("promise(1, 9)", x.promise(1, 9), 0);
        D.due("promise(1, 10)", x.promise(1, 10), -2);
        D.due("promise(1, -1)", x.promise(1, -1), -2);
        for (int q : new int[] {-1, 3, MIN, MAX}) {
            D.due("promise(" + q + ", 0)", x.promise(q, 0), -1);
            D.due("promise(" + q + ", 10)", x.promise(q, 10), -1);
        }
        D.due("promise(1, 0)", x.promise(1, 0), 9);
        D.due("promise(1, 1)", x.promise(1, 1), 0);
        D.due("of another", x.ofColumn(0, 2), 0);
    }

    private static void manners() {
        SpanWidths none = new SpanWidths();
        D.due("no table, manner(3)", none.manner(3), -3);
        D.due("no table, manner(0)", none.manner(0), -3);
        SpanWidths x = Due.of(THREE);
        D.due("manner(2)", x.manner(2), 0);
        D.due("manner(3)", x.manner(3), -2);
        D.due("manner(-1)", x.manner(-1), -2);
        D.due("manner(1)", x.manner(1), 2);
        D.due("manner(0)", x.manner(0), 1);
        D.due("many(5)", x.many(5), 0);
    }
}
