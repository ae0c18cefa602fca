import java.util.List;
import java.util.function.ToLongFunction;

/** Promises 1 to 7, and what Terms say of a TEXT, MUST and WOULD: each sentence that names an edge, one by one. */
public final class EdgesOfTableTest {
    private static final Due D = new Due("EdgesOfTableTest");
    private static final int MIN = Due.MIN, MAX = Due.MAX;

    public static void main(String[] args) {
        newObject();
        headOfText();
        howManyCells();
        semicolons();
        letters();
        firstColumns();
        spans();
        lows();
        highs();
        codesThatLanesHold();
        placesOfFaults();
        endsTooSoon();
        allAnew();
        tableRefused();
        tableOfNothing();
        tableOfSize();
        tableOfIndex();
        leastAndMost();
        mustOfNone();
        mustOfCellsOverOne();
        mustOfCellsOverSeveral();
        woulds();
        ofCells();
        ofColumns();
        contents();
        promises();
        manners();
        D.end();
    }

    private static int told(String text) {
        return Due.tell(new SpanWidths(), text);
    }

    private static void newObject() {
        D.by("No TABLE (no COLUMNS, CELLS), SHEETS have nothing.");
        SpanWidths x = new SpanWidths();
        D.due("fault()", x.fault(), 0);
        D.due("trace()", x.trace(), 0);
        D.due("no COLUMNS: many(0)", x.many(0), 0);
        D.due("no CELLS: many(1)", x.many(1), 0);
        D.due("no COLUMNS: ofColumn(0, 0)", x.ofColumn(0, 0), -1);
        D.due("no CELLS: ofCell(0, 0)", x.ofCell(0, 0), -1);
        D.due("no TABLE: manner(0)", x.manner(0), -3);
        D.due("no TABLE: manners()", x.manners(), -3);
        D.due("no TABLE: whole(0, 0)", x.whole(0, 0), -3);
        D.due("no TABLE: mean(0)", x.mean(0), SpanWidths.LOST);
        for (int k = 0; k < 4; k++) {
            D.due(x, "put(" + k + ", 0, 0)", x.put(k, 0, 0), -11, 1);
            D.due("lose(" + k + ")", x.lose(k), 0);
        }
    }

    // ---- the codes of a text, from the first below what is taken to the first above it

    private static void headOfText() {
        D.by("t, a digit 1 .. 6 (how many COLUMNS, numbered from 0 on)");
        D.due("s", told("s1;p0100"), -100);
        D.due("t", told("t1;p0100"), 1);
        D.due("u", told("u1;p0100"), -100);
        for (char code = '/'; code <= ':'; code++) {
            boolean is = code >= '1' && code <= '6';
            SpanWidths x = new SpanWidths();
            D.due("t" + code, Due.tell(x, "t" + code + ";p0100"), is ? 1 : -101);
            int columns = is ? code - '0' : 0;
            D.due("t" + code + " many(0)", x.many(0), columns);
            D.due("t" + code + " ofColumn of the last", x.ofColumn(columns - 1, 2), is ? 0 : -1);
            D.due("t" + code + " ofColumn behind it", x.ofColumn(columns, 2), -1);
        }
    }

    private static void howManyCells() {
        D.by("then 1 to 9 CELLS, numbered from 0 on");
        for (int k = 0; k <= 9; k++) {
            SpanWidths x = new SpanWidths();
            D.due(k + " CELLS", Due.tell(x, "t1" + ";p0100".repeat(k)), k == 0 ? -102 : k);
            D.due(k + " CELLS many(1)", x.many(1), k);
            D.due(k + " CELLS ofCell of the last", x.ofCell(k - 1, 0), k == 0 ? -1 : 0);
            D.due(k + " CELLS ofCell behind it", x.ofCell(k, 0), -1);
        }
    }

    private static void semicolons() {
        D.by("each: ; and a letter (its kind)");
        D.due(": for ;", told("t1:p0100"), -102);
        D.due("< for ;", told("t1<p0100"), -102);
        D.due(": for a second ;", told("t1;p0100:p0100"), -108);
        D.due("< for a second ;", told("t1;p0100<p0100"), -108);
    }

    private static void letters() {
        D.by("Kinds: 0 PLAIN (p); 1 FRAMED (f), a PLAIN one; 2 DOUBLE (d), a FRAMED one.");
        for (char code = 'A'; code <= 'z'; code++) {
            int kind = code == 'p' ? 0 : code == 'f' ? 1 : code == 'd' ? 2 : -1;
            SpanWidths x = new SpanWidths();
            D.due("letter " + code, Due.tell(x, "t1;" + code + "0100"), kind < 0 ? -103 : 1);
            D.due("letter " + code + ", kind", x.ofCell(0, 0), kind);
        }
    }

    private static void firstColumns() {
        D.by("a digit: its first COLUMN");
        for (int columns = 1; columns <= 6; columns++) {
            for (char code = '/'; code <= ':'; code++) {
                boolean is = code >= '0' && code < '0' + columns;
                SpanWidths x = new SpanWidths();
                String text = "t" + columns + ";p" + code + "100";
                D.due(text, Due.tell(x, text), is ? 1 : -104);
                D.due(text + " its COLUMNS", x.ofCell(0, 1), is ? 1 << (code - '0') : -1);
            }
        }
    }

    private static void spans() {
        D.by("a digit 1 .. 3: over how many COLUMNS it goes (all of which there are)");
        for (int columns = 1; columns <= 6; columns++) {
            for (int first = 0; first < columns; first++) {
                for (char code = '/'; code <= ':'; code++) {
                    boolean is = code >= '1' && code <= '3' && first + (code - '0') <= columns;
                    String text = "t" + columns + ";p" + first + code + "00";
                    D.due(text, told(text), is ? 1 : -105);
                }
            }
        }
        D.due("over one, the last", Due.of("t6;p5100").ofCell(0, 1), 0b100000);
        D.due("over two, the last", Due.of("t6;p4200").ofCell(0, 1), 0b110000);
        D.due("over three, the last", Due.of("t6;p3300").ofCell(0, 1), 0b111000);
        D.due("over three, all", Due.of("t3;p0300").ofCell(0, 1), 0b111);
    }

    private static void lows() {
        D.by("a digit 0 .. 9 (LOW)");
        for (char code = '/'; code <= ':'; code++) {
            boolean is = code >= '0' && code <= '9';
            SpanWidths x = new SpanWidths();
            D.due("LOW " + code, Due.tell(x, "t1;p01" + code + "9"), is ? 1 : -106);
            D.due("LOW " + code + " told", x.ofCell(0, 2), is ? code - '0' : -1);
        }
    }

    private static void highs() {
        D.by("a digit from that on to 9 (HIGH)");
        for (char low = '0'; low <= '9'; low++) {
            for (char code = '/'; code <= ':'; code++) {
                boolean is = code >= low && code <= '9';
                SpanWidths x = new SpanWidths();
                D.due("HIGH " + low + code, Due.tell(x, "t1;p01" + low + code), is ? 1 : -107);
                D.due("HIGH " + low + code + " told", x.ofCell(0, 3), is ? code - '0' : -1);
            }
        }
    }

    private static void codesThatLanesHold() {
        D.by("(Codes: t 116, p 112, f 102, d 100, ; 59, digits 48 .. 57.)");
        int[] text = {116, 49, 59, 112, 48, 49, 48, 57};
        for (int place = 0; place < text.length; place++) {
            for (int lane = 0; lane < 3; lane++) {
                for (int far : new int[] {256, -256, 65536, MIN}) {
                    int[] other = text.clone();
                    other[place] += far;
                    SpanWidths x = new SpanWidths();
                    Due.write(x, 0, lane, other);
                    boolean cut = lane == 0 || lane == 1 && far % 65536 == 0;
                    D.due("lane " + lane + ", code " + other[place] + " at " + place, x.table(0, lane, 0, 8), cut ? 1 : -100 - place);
                }
            }
        }
    }

    private static void placesOfFaults() {
        D.by("FIRST FAULT: the place (from 0 on) of the first code with which no TEXT goes on (the ; of a tenth CELL)");
        String nine = "t1" + ";p0100".repeat(9);
        D.due("nine", told(nine), 9);
        D.due("the ; of a tenth", told(nine + ";"), -156);
        D.due("a tenth begun", told(nine + ";p01"), -156);
        D.due("another code there", told(nine + "p"), -156);
        for (int place = 0; place < nine.length(); place++) {
            D.due("wrong at " + place, told(nine.substring(0, place) + "!" + nine.substring(place + 1)), -100 - place);
            // all behind it is wrong, too: the first counts
            D.due("wrong from " + place + " on", told(nine.substring(0, place) + "!".repeat(60 - place)), -100 - place);
        }
        SpanWidths x = new SpanWidths();
        Due.writeText(x, 0, Due.BYTES, "!!!!t1;x0100");
        D.due("places are those of the TEXT, not of the SHEET", x.table(0, 0, 4, 8), -103);
        Due.writeText(x, 0, Due.BYTES, "!".repeat(52) + "t1;p0100");
        D.due("a TEXT at the very end of a SHEET of 60", x.table(0, 0, 52, 8), 1);
    }

    private static void endsTooSoon() {
        D.by("how many codes there are, if it just ends too soon");
        String nine = "t1" + ";p0100".repeat(9);
        SpanWidths x = new SpanWidths();
        Due.writeText(x, 0, Due.BYTES, nine);
        for (int n = 0; n <= nine.length(); n++) {
            boolean whole = n >= 8 && n % 6 == 2;
            D.due(x, "of " + n + " codes", x.table(0, 0, 0, n), whole ? n / 6 : -100 - n, 0);
        }
        D.due("no codes from the end on", x.table(0, 0, 56, 0), -100);
    }

    private static void allAnew() {
        D.by("A TEXT that is taken makes all anew: no COLUMN is PROMISED anything, the MANNER is 0, no READINGS.");
        // what was asked last must leave nothing behind, either
        List<ToLongFunction<SpanWidths>> asked = List.of(x -> x.many(0), x -> x.kinds(0), x -> x.lows(0), x -> x.manners(),
            x -> x.day(3, 0, 0, 0, 9, 0), x -> x.width(0, 9), x -> x.odds(0, 0, 0), x -> x.table(3, 0, 0, 13));
        for (ToLongFunction<SpanWidths> ask : asked) anewAfter(ask);
    }

    private static void anewAfter(ToLongFunction<SpanWidths> ask) {
        SpanWidths x = Due.of("t6;p5123;d3304");
        for (int q = 0; q < 6; q++) x.promise(q, 9);
        x.manner(2);
        for (int k = 0; k < 8; k++) x.reading(0, 0, 120);
        x.content(0, 9, 9);
        ask.applyAsLong(x);
        D.due("the same TEXT again", x.table(3, 0, 0, 14), 2);
        for (int q = 0; q < 6; q++) D.due("PROMISED " + q, x.ofColumn(q, 2), 0);
        D.due("the MANNER", x.many(5), 0);
        D.due("READINGS", x.many(4), 0);
        D.due("by none all can be", x.manners(), 7);
        D.due("LOW", x.ofCell(0, 2), 2);
        D.due("HIGH", x.ofCell(0, 3), 3);
        D.due("all MUSTS", x.many(2), 2);
        D.due("WIDTH by MANNER 0, unpromised", x.width(0, 99), 16);
    }

    // ---- table: refusals and faults

    private static void tableRefused() {
        D.by("UNKNOWN; OUTSIDE: lane; FAULTS CAST (nothing is no CAST), NULL, SIZE: n is below 0, INDEX: not all cells are there");
        SpanWidths x = new SpanWidths();
        for (int k = 0; k < 4; k++) {
            for (int lane = 0; lane < 3; lane++) {
                Due.writeText(x, k, lane, "t1;p0100");
                D.due(x, "table(" + k + ", " + lane + ", 0, 8)", x.table(k, lane, 0, 8), 1, 0);
            }
        }
        // each call has all that is wrong behind it in the line, too
        for (int k : Due.not(0, 3)) D.due(x, "UNKNOWN ahead of OUTSIDE: " + k, x.table(k, 3, -1, -1), -1, 0);
        for (int lane : Due.not(0, 2)) D.due(x, "OUTSIDE ahead of FAULTS: " + lane, x.table(0, lane, -1, -1), -2, 0);
        D.due(x, "CAST ahead of SIZE: bytes", x.table(0, 0, -1, -1), -12, 2);
        D.due(x, "CAST ahead of SIZE: shorts", x.table(0, 1, -1, -1), -12, 2);
        D.due(x, "SIZE ahead of INDEX", x.table(0, 2, -1, -1), -14, 4);
        D.due(x, "INDEX ahead of the TEXT", x.table(0, 2, 1, 8), -13, 3);
        D.due(x, "then the TEXT", x.table(0, 2, 1, 7), -100, 0);
    }

    private static void tableOfNothing() {
        D.by("FAULTS CAST (nothing is no CAST), NULL");
        SpanWidths x = new SpanWidths();
        for (int lane = 0; lane < 3; lane++) D.due(x, "never a row, lane " + lane, x.table(0, lane, 0, 0), -11, 1);
        x.sheet(0, Due.SHORTS, 8);
        x.lose(0);
        for (int lane = 0; lane < 3; lane++) D.due(x, "a row lost, lane " + lane, x.table(0, lane, -1, -1), -11, 1);
        for (int lane : Due.not(0, 2)) D.due(x, "nothing, lane " + lane, x.table(0, lane, 0, 0), -2, 0);
        x.sheet(0, Due.SHORTS, 0);
        D.due(x, "a row of 0 numbers is of its LANE", x.table(0, Due.BYTES, 0, 0), -12, 2);
        D.due(x, "a row of 0 numbers is a TEXT of 0 codes", x.table(0, Due.SHORTS, 0, 0), -100, 0);
    }

    private static void tableOfSize() {
        D.by("SIZE: n is below 0");
        SpanWidths x = new SpanWidths();
        Due.writeText(x, 0, Due.BYTES, "t1;p0100");
        for (int n : new int[] {-1, -8, MIN, MIN + 1}) D.due(x, "n " + n, x.table(0, 0, 8, n), -14, 4);
        D.due(x, "n 0 is no SIZE", x.table(0, 0, 0, 0), -100, 0);
    }

    private static void tableOfIndex() {
        D.by("3 INDEX (of cells from i on also where i is not 0 .. how many there are, if none of them is taken, too)");
        SpanWidths x = new SpanWidths();
        Due.writeText(x, 0, Due.BYTES, "t1;p0100");
        for (int i = 0; i <= 8; i++) D.due(x, "none from " + i + " on", x.table(0, 0, i, 0), -100, 0);
        for (int i : Due.not(0, 8)) D.due(x, "none from " + i + " on", x.table(0, 0, i, 0), -13, 3);
        for (int i = 0; i <= 8; i++) {
            D.due(x, "all from " + i + " on", x.table(0, 0, i, 8 - i), i == 0 ? 1 : -100, 0);
            D.due(x, "one more than all from " + i + " on", x.table(0, 0, i, 9 - i), -13, 3);
        }
        D.due(x, "i and n wrap to 0", x.table(0, 0, MIN, MIN), -14, 4);
        D.due(x, "i and n wrap below 0", x.table(0, 0, 1, MAX), -13, 3);
        D.due(x, "i and n wrap below 0", x.table(0, 0, MAX, MAX), -13, 3);
        D.due(x, "i and n are 8 by a wrap", x.table(0, 0, MIN + 9, MAX), -13, 3);
        D.due(x, "i below 0, the end is there", x.table(0, 0, -1, 9), -13, 3);
        x.sheet(1, 0, 0);
        D.due(x, "of 0 numbers from 0 on", x.table(1, 0, 0, 0), -100, 0);
        D.due(x, "of 0 numbers from 1 on", x.table(1, 0, 1, 0), -13, 3);
        D.due(x, "of 0 numbers one", x.table(1, 0, 0, 1), -13, 3);
        // the room behind a short row still has what an earlier row had there
        Due.writeText(x, 2, Due.BYTES, "t1;p0100");
        x.sheet(2, Due.BYTES, 7);
        D.due(x, "a shorter row", x.table(2, 0, 0, 8), -13, 3);
    }

    // ---- LEAST, MOST, MUST, WOULD

    private static void leastAndMost() {
        D.by("LEAST of a CELL: of a PLAIN one LOW; of a FRAMED one 1 more; of a DOUBLE one twice what a PLAIN one's is. MOST likewise of HIGH.");
        String kinds = "pfd";
        int[][] want = {{0, 9}, {1, 10}, {0, 18}};
        for (int kind = 0; kind < 3; kind++) {
            for (int ends = 0; ends < 3; ends++) {
                SpanWidths x = Due.of("t1;" + kinds.charAt(kind) + "01" + (ends == 2 ? "9" : "0") + (ends == 0 ? "0" : "9"));
                D.due("LEAST of kind " + kind, x.ofCell(0, 4), want[kind][ends == 2 ? 1 : 0]);
                D.due("MOST of kind " + kind, x.ofCell(0, 5), want[kind][ends == 0 ? 0 : 1]);
            }
        }
    }

    private static void mustOfNone() {
        D.by("at first of each the greatest LEAST of CELLS over it alone (0: there is none)");
        D.dueRow("a CELL over one of six", Due.musts(Due.of("t6;p2199")), 0, 0, 9, 0, 0, 0);
        D.dueRow("a CELL of 0", Due.musts(Due.of("t2;p0100")), 0, 0);
        D.dueRow("a CELL over two that needs nothing", Due.musts(Due.of("t2;d0209")), 0, 0);
    }

    private static void mustOfCellsOverOne() {
        D.by("at first of each the greatest LEAST of CELLS over it alone");
        D.dueRow("the greatest is the first", Due.musts(Due.of("t1;p0155;p0144;f0133")), 5);
        D.dueRow("the greatest is the last", Due.musts(Due.of("t1;p0144;f0133;d0133")), 6);
        D.dueRow("by LEAST, not by LOW", Due.musts(Due.of("t1;p0177;d0144")), 8);
        D.dueRow("as much as can be, in each", Due.musts(Due.of("t6;d0199;d1199;d2199;d3199;d4199;d5199")), 18, 18, 18, 18, 18, 18);
    }

    private static void mustOfCellsOverSeveral() {
        D.by("as long as MUST of its COLUMNS together is less than its LEAST");
        D.dueRow("just as much", Due.musts(Due.of("t2;p0133;p1144;p0277")), 3, 4);
        D.dueRow("one more", Due.musts(Due.of("t2;p0133;p1144;p0288")), 4, 4);
        D.dueRow("less", Due.musts(Due.of("t2;p0133;p1144;p0266")), 3, 4);
        D.by("the one of these with the least MUST (of several the first) gets 1 more");
        D.dueRow("of two the first", Due.musts(Due.of("t2;p0211")), 1, 0);
        D.dueRow("of three the first", Due.musts(Due.of("t3;p0311")), 1, 0, 0);
        D.dueRow("the second of three", Due.musts(Due.of("t3;p0111;p0322")), 1, 1, 0);
        D.dueRow("the third of three", Due.musts(Due.of("t3;p0111;p1111;p0333")), 1, 1, 1);
        D.dueRow("the last is the least", Due.musts(Due.of("t3;p0133;p1122;p2111;p0377")), 3, 2, 2);
        D.dueRow("none but its own", Due.musts(Due.of("t6;p2399")), 0, 0, 3, 3, 3, 0);
        D.by("of CELLS over several COLUMNS, those over two first, then those over three, in the order of numbers");
        // if the one over three went first, it were 2 2 1, then 2 2 1
        D.dueRow("over two ahead of over three", Due.musts(Due.of("t3;p0355;p1244")), 1, 2, 2);
        D.dueRow("over one ahead of over two", Due.musts(Due.of("t2;p0244;p0144")), 4, 0);
        D.dueRow("in the order of numbers", Due.musts(Due.of("t3;p0233;p1233")), 2, 2, 1);
        D.dueRow("in the order of numbers, the other way", Due.musts(Due.of("t3;p1233;p0233")), 1, 2, 1);
        D.dueRow("of those over three, too", Due.musts(Due.of("t4;p0344;p1344")), 2, 2, 1, 1);
        D.dueRow("of those over three, the other way", Due.musts(Due.of("t4;p1344;p0344")), 1, 2, 1, 1);
    }

    private static void woulds() {
        D.by("WOULD of the COLUMNS: at first of each its MUST (as it is at the end), or the greatest MOST of CELLS over it alone, if that is more");
        D.dueRow("MOST is less than MUST", Due.woulds(Due.of("t2;p0299;p0104")), 5, 4);
        D.dueRow("MOST is just MUST", Due.woulds(Due.of("t2;p0299;p0105")), 5, 4);
        D.dueRow("MOST is one more", Due.woulds(Due.of("t2;p0299;p0106")), 6, 4);
        D.dueRow("no CELL", Due.woulds(Due.of("t2;p0100")), 0, 0);
        D.by("then in the same way by MOST");
        D.dueRow("just as much", Due.woulds(Due.of("t2;p0103;p1104;p0207")), 3, 4);
        D.dueRow("one more", Due.woulds(Due.of("t2;p0103;p1104;p0208")), 4, 4);
        D.dueRow("over two ahead of over three", Due.woulds(Due.of("t3;p0305;p1204")), 1, 2, 2);
        D.dueRow("of several the first", Due.woulds(Due.of("t3;p0301")), 1, 0, 0);
        D.dueRow("as much as can be", Due.woulds(Due.of("t3;d0309")), 6, 6, 6);
    }

    // ---- the calls

    private static void ofCells() {
        D.by("Of a CELL: 0 kind, 1 its COLUMNS, as a set, 2 LOW, 3 HIGH, 4 LEAST, 5 MOST. UNKNOWN; OUTSIDE.");
        SpanWidths nine = Due.of("t6" + ";p0100".repeat(8) + ";d3309");
        int[] want = {2, 56, 0, 9, 0, 18};
        for (int what = 0; what <= 5; what++) D.due("ofCell(8, " + what + ")", nine.ofCell(8, what), want[what]);
        for (int what : Due.not(0, 5)) D.due("ofCell(8, " + what + ")", nine.ofCell(8, what), -2);
        D.due("ofCell(0, 3)", nine.ofCell(0, 3), 0);
        for (int c : Due.not(0, 8)) {
            D.due("ofCell(" + c + ", 0)", nine.ofCell(c, 0), -1);
            D.due("UNKNOWN ahead of OUTSIDE", nine.ofCell(c, 6), -1);
        }
        SpanWidths one = Due.of("t1;p0100");
        for (int c : Due.not(0, 0)) D.due("of one CELL, ofCell(" + c + ", 0)", one.ofCell(c, 0), -1);
        for (int c : new int[] {-1, 0, 8, MIN, MAX}) D.due("of no TABLE, ofCell(" + c + ", 6)", new SpanWidths().ofCell(c, 6), -1);
    }

    private static void ofColumns() {
        D.by("Of a COLUMN: 0 MUST, 1 WOULD, 2 tenths that it is PROMISED, 3 CELLS over it (alone or with others), as a set. UNKNOWN; OUTSIDE.");
        SpanWidths x = Due.of("t6" + ";p0100".repeat(8) + ";d3309");
        x.promise(5, 9);
        int[] want = {0, 6, 9, 256};
        for (int what = 0; what <= 3; what++) D.due("ofColumn(5, " + what + ")", x.ofColumn(5, what), want[what]);
        for (int what : Due.not(0, 3)) D.due("ofColumn(5, " + what + ")", x.ofColumn(5, what), -2);
        for (int q : Due.not(0, 5)) {
            D.due("ofColumn(" + q + ", 0)", x.ofColumn(q, 0), -1);
            D.due("UNKNOWN ahead of OUTSIDE", x.ofColumn(q, 4), -1);
        }
        D.due("alone", x.ofColumn(0, 3), 255);
        D.due("none, ahead of a CELL over three", x.ofColumn(2, 3), 0);
        D.due("its first", x.ofColumn(3, 3), 256);
        D.due("its second", x.ofColumn(4, 3), 256);
        SpanWidths one = Due.of("t1;p0100");
        for (int q : Due.not(0, 0)) D.due("of one COLUMN, ofColumn(" + q + ", 0)", one.ofColumn(q, 0), -1);
        for (int q : new int[] {-1, 0, 5, MIN, MAX}) D.due("of no TABLE, ofColumn(" + q + ", 4)", new SpanWidths().ofColumn(q, 4), -1);
    }

    private static void contents() {
        D.by("LOW of a CELL becomes v, HIGH w (0 .. v .. w .. 9): 10 times LOW that was and HIGH that was. UNKNOWN; OUTSIDE.");
        SpanWidths x = Due.of("t1;p0100");
        int was = 0;
        for (int v = -1; v <= 10; v++) {
            for (int w = -1; w <= 10; w++) {
                boolean is = 0 <= v && v <= w && w <= 9;
                D.due("content(0, " + v + ", " + w + ")", x.content(0, v, w), is ? was : -2);
                if (is) was = 10 * v + w;
                D.due("content(0, " + v + ", " + w + ") LOW and HIGH", 10 * x.ofCell(0, 2) + x.ofCell(0, 3), was);
            }
        }
        for (int v : new int[] {MIN, MAX}) {
            for (int w : new int[] {MIN, 0, 9, MAX}) D.due("content(0, " + v + ", " + w + ")", x.content(0, v, w), -2);
        }
        D.due("content(0, 0, MAX)", x.content(0, 0, MAX), -2);
        for (int c : Due.not(0, 0)) {
            D.due("content(" + c + ", 0, 0)", x.content(c, 0, 0), -1);
            D.due("UNKNOWN ahead of OUTSIDE", x.content(c, 1, 0), -1);
        }
        D.due("of no TABLE", new SpanWidths().content(0, 1, 0), -1);
        SpanWidths nine = Due.of("t1" + ";p0100".repeat(9));
        D.due("the ninth", nine.content(8, 9, 9), 0);
        D.due("the ninth's MUST", nine.many(2), 9);
        D.due("the ninth, 99 was", nine.content(8, 0, 0), 99);
        D.due("MUST is worked out anew", nine.many(2), 0);
        D.due("WOULD is worked out anew", nine.many(3), 0);
        D.due("a tenth", nine.content(9, 0, 0), -1);
    }

    private static void promises() {
        D.by("A COLUMN is PROMISED p tenths (0 .. 9; 0: none): how many it was. UNKNOWN; OUTSIDE.");
        SpanWidths x = Due.of("t6;p0100");
        int was = 0;
        for (int p = 0; p <= 9; p++) {
            D.due("promise(5, " + p + ")", x.promise(5, p), was);
            was = p;
        }
        for (int p : Due.not(0, 9)) {
            D.due("promise(5, " + p + ")", x.promise(5, p), -2);
            D.due("it stays", x.ofColumn(5, 2), 9);
        }
        D.due("its nine tenths", x.width(5, 10), 9);
        D.due("promise(5, 0)", x.promise(5, 0), 9);
        D.due("0: none", x.width(5, 10), 1);
        D.due("promise(0, 9)", x.promise(0, 9), 0);
        for (int q : Due.not(0, 5)) {
            D.due("promise(" + q + ", 0)", x.promise(q, 0), -1);
            D.due("UNKNOWN ahead of OUTSIDE", x.promise(q, 10), -1);
        }
        SpanWidths one = Due.of("t1;p0100");
        for (int q : Due.not(0, 0)) D.due("of one COLUMN, promise(" + q + ", 0)", one.promise(q, 0), -1);
        D.due("of no TABLE", new SpanWidths().promise(0, 10), -1);
    }

    private static void manners() {
        D.by("The MANNER becomes m (0 .. 2): what it was. STATE: there is no TABLE; OUTSIDE.");
        SpanWidths x = Due.of("t1;p0100");
        D.due("manner(2)", x.manner(2), 0);
        for (int m : Due.not(0, 2)) {
            D.due("manner(" + m + ")", x.manner(m), -2);
            D.due("it stays", x.many(5), 2);
            D.due("STATE ahead of OUTSIDE", new SpanWidths().manner(m), -3);
        }
        D.due("manner(1)", x.manner(1), 2);
        D.due("manner(0)", x.manner(0), 1);
        D.due("manner(0) again", x.manner(0), 0);
        for (int m = 0; m <= 2; m++) D.due("of no TABLE, manner(" + m + ")", new SpanWidths().manner(m), -3);
    }
}
