/** Promises 14 to 19: reading, back, kinds, lows, manners, odds. */
public final class ReadingsTest {
    private static final Due D = new Due("ReadingsTest");
    private static final int MIN = Integer.MIN_VALUE, MAX = Integer.MAX_VALUE;
    /** MUST 3 2 2, WOULD 5 4 4. */
    private static final String THREE = "t3;p0124;f1113;d2112;p0259;f0368";

    public static void main(String[] args) {
        readings();
        backs();
        kinds();
        lows();
        manners();
        odds();
        D.end();
    }

    private static void readings() {
        SpanWidths none = new SpanWidths();
        D.due("no table", none.reading(0, 0, 0), -1);
        D.due("no table, no n", none.reading(100, 0, 0), -1);
        SpanWidths x = Due.of(THREE);
        for (int k = 0; k < 8; k++) {
            D.due("reading " + k, x.reading(k == 0 ? 99 : 0, 2, k == 1 ? 120 : 0), k);
            D.due("how many", x.many(4), k + 1);
        }
        D.due("a ninth", x.reading(0, 0, 0), -4);
        for (int q : new int[] {-1, 3, MIN, MAX}) D.due("no column " + q, x.reading(100, q, 121), -1);
        for (int n : new int[] {-1, 100, MIN, MAX}) D.due("n " + n + " ahead of FULL", x.reading(n, 0, 0), -2);
        for (int v : new int[] {-1, 121, MIN, MAX}) D.due("v " + v + " ahead of FULL", x.reading(0, 0, v), -2);
        D.due("how many", x.many(4), 8);
    }

    private static void backs() {
        SpanWidths x = new SpanWidths();
        D.due("no table, back(0)", x.back(0), 0);
        D.due("no table, back(1)", x.back(1), -2);
        Due.tell(x, THREE);
        x.reading(0, 0, 3);
        x.reading(0, 1, 99);
        x.reading(0, 2, 99);
        D.due("back(4)", x.back(4), -2);
        D.due("back(-1)", x.back(-1), -2);
        D.due("back(MIN)", x.back(MIN), -2);
        D.due("back(MAX)", x.back(MAX), -2);
        D.due("none can be", x.manners(), 0);
        D.due("back(0)", x.back(0), 3);
        D.due("back(2)", x.back(2), 1);
        D.due("the first is left", x.manners(), 7);
        D.due("its number is free again", x.reading(0, 1, 2), 1);
        D.due("back(2) of two", x.back(2), 0);
        D.due("many(4)", x.many(4), 0);
    }

    private static void kinds() {
        SpanWidths x = Due.of("t2;p0123;f0235");
        D.due("no readings", x.kinds(0), 7);
        // MUST of column 0: 2, 3, 4 by the kind of cell 0
        x.reading(0, 0, 3);
        D.due("framed", x.kinds(0), 2);
        D.due("of the other: 2 2, 2 2, 3 3", x.kinds(1), 4);
        x.back(1);
        x.reading(0, 0, 2);
        D.due("plain", x.kinds(0), 1);
        D.due("of the other", x.kinds(1), 3);
        x.reading(0, 0, 3);
        D.due("both at once: none", x.kinds(0), 0);
        D.due("its kind stays", x.ofCell(0, 0), 0);
        SpanWidths y = Due.of("t1;d0111");
        y.reading(0, 0, 2);
        D.due("framed and double", y.kinds(0), 6);
        y.content(0, 2, 2);
        D.due("by how all is now", y.kinds(0), 1);
        for (int c : new int[] {-1, 1, MIN, MAX}) D.due("kinds(" + c + ")", y.kinds(c), -1);
        D.due("no table", new SpanWidths().kinds(0), -1);
    }

    private static void lows() {
        SpanWidths x = Due.of("t2;p0124;p0235");
        D.due("no readings: 0 .. 4", x.lows(0), 31);
        D.due("no readings: 0 .. 5", x.lows(1), 63);
        x.reading(0, 0, 2);
        // column 0 has 2 by LOW 0, 1 (3 spread over both: 2 1), 2
        D.due("column 0 has 2", x.lows(0), 7);
        D.due("of the other: 0 .. 4", x.lows(1), 31);
        x.reading(0, 1, 2);
        D.due("and column 1 has 2", x.lows(0), 0);
        D.due("of the other: 4", x.lows(1), 16);
        D.due("its LOW stays", x.ofCell(1, 2), 3);
        SpanWidths y = Due.of("t1;p0109");
        D.due("0 .. 9", y.lows(0), 1023);
        y.reading(4, 0, 4);
        D.due("0 .. 4", y.lows(0), 31);
        y.content(0, 0, 3);
        D.due("not beyond HIGH", y.lows(0), 15);
        for (int c : new int[] {-1, 1, MIN, MAX}) D.due("lows(" + c + ")", y.lows(c), -1);
        D.due("no table", new SpanWidths().lows(0), -1);
    }

    private static void manners() {
        D.due("no table", new SpanWidths().manners(), -3);
        SpanWidths x = Due.of(THREE);
        D.due("no readings", x.manners(), 7);
        // for 8: 4 2 2 by 0, 3 3 2 by 1 and by 2
        x.reading(8, 0, 4);
        D.due("0", x.manners(), 1);
        x.back(1);
        x.reading(8, 1, 3);
        D.due("1, 2", x.manners(), 6);
        x.manner(2);
        D.due("whatever it is", x.manners(), 6);
        D.due("it stays", x.many(5), 2);
        // for 2, MUST 0 0, WOULD 1 9: 0 2 by 0, 1 1 by 1 and by 2
        SpanWidths y = Due.of("t2;p0101;p1109");
        y.reading(2, 0, 1);
        D.due("by 1, 2", y.manners(), 6);
        y.promise(0, 9);
        D.due("as promised now: 1 1 by all", y.manners(), 7);
        for (int q : new int[] {0, 1}) D.due("refused reading", y.reading(100, q, 0), -2);
        D.due("changes nothing", y.many(4), 1);
    }

    private static void odds() {
        SpanWidths x = Due.of(THREE);
        oddsAre(x, 0, 0, 1, 1);
        oddsAre(x, 0, 3, 1, 1);
        // 4 from 8 on: 56 of 64
        oddsAre(x, 0, 4, 7, 8);
        // 5 by 11 (4 3 3, then 5 3 3): 53 of 64
        oddsAre(x, 0, 5, 53, 64);
        // 6 by 14, then 1 more of every third: 21 by 59
        oddsAre(x, 0, 21, 5, 64);
        oddsAre(x, 0, 99, 0, 1);
        SpanWidths one = Due.of("t1;p0100");
        oddsAre(one, 0, 63, 1, 64);
        oddsAre(one, 0, 64, 0, 1);
        oddsAre(one, 0, 32, 1, 2);
        oddsAre(one, 0, 16, 3, 4);
        oddsAre(one, 0, 1, 63, 64);
        D.due("odds(0, 0, 2)", x.odds(0, 0, 2), SpanWidths.LOST);
        D.due("odds(0, 0, -1)", x.odds(0, 0, -1), SpanWidths.LOST);
        for (int v : new int[] {-1, 100, MIN, MAX}) D.due("odds(0, " + v + ", 0)", x.odds(0, v, 0), SpanWidths.LOST);
        for (int q : new int[] {-1, 3, MIN, MAX}) D.due("odds(" + q + ", 0, 0)", x.odds(q, 0, 0), SpanWidths.LOST);
        D.due("no table", new SpanWidths().odds(0, 0, 0), SpanWidths.LOST);
    }

    private static void oddsAre(SpanWidths x, int q, int v, int upper, int lower) {
        D.due("odds(" + q + ", " + v + ", 0)", x.odds(q, v, 0), upper);
        D.due("odds(" + q + ", " + v + ", 1)", x.odds(q, v, 1), lower);
    }
}
