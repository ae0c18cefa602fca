/** Promises 14 to 19, and what Terms say of READINGS and ODDS: each sentence that names an edge, one by one. */
public final class EdgesOfReadingsTest {
    private static final Due D = new Due("EdgesOfReadingsTest");
    private static final int MIN = Due.MIN, MAX = Due.MAX;
    private static final long LOST = SpanWidths.LOST;
    /** MUST 3 2, WOULD 7 4; for 8 units COLUMN 0 has 6, 4, 5 by MANNERS 0, 1, 2. */
    private static final String TWO = "t2;p0137;p1124";

    public static void main(String[] args) {
        eightAtMost();
        readingRefused();
        backs();
        eachIsLookedAt();
        ofHowAllIsNow();
        kinds();
        kindsRefused();
        lows();
        lowsRefused();
        manners();
        tablesOfOdds();
        leastTerms();
        oddsRefused();
        D.end();
    }

    private static void eightAtMost() {
        D.by("READINGS, 8 at most, numbered by how many there are: for n units a COLUMN has WIDTH v.");
        SpanWidths x = Due.of(TWO);
        for (int k = 0; k < 8; k++) {
            D.due("READING " + k, x.reading(5, 0, 3), k);
            D.due("how many", x.many(4), k + 1);
        }
        D.due("a ninth", x.reading(5, 0, 3), -4);
        D.due("a ninth that can't be so", x.reading(5, 0, 4), -4);
        D.due("still eight", x.many(4), 8);
        D.due("and all are so", x.manners(), 7);
        D.due("one back", x.back(1), 7);
        D.due("the eighth again", x.reading(5, 0, 3), 7);
        D.due("a ninth again", x.reading(5, 0, 3), -4);
        D.due("all back", x.back(8), 0);
        D.due("the first again", x.reading(5, 0, 3), 0);
    }

    private static void readingRefused() {
        D.by("A READING: its number. UNKNOWN; OUTSIDE: n (0 .. 99), v (0 .. 120); FULL.");
        SpanWidths x = Due.of("t6;p0100");
        D.due("the last of all", x.reading(99, 5, 120), 0);
        D.due("the first of all", x.reading(0, 0, 0), 1);
        for (int round = 0; round < 2; round++) {
            for (int q : Due.not(0, 5)) D.due("UNKNOWN ahead of OUTSIDE", x.reading(100, q, 121), -1);
            for (int n : Due.not(0, 99)) D.due("n " + n, x.reading(n, 0, 0), -2);
            for (int v : Due.not(0, 120)) D.due("v " + v, x.reading(0, 0, v), -2);
            D.due("how many", x.many(4), round == 0 ? 2 : 8);
            // once more with eight of them: UNKNOWN and OUTSIDE go ahead of FULL
            for (int k = 2; k < 8; k++) x.reading(0, 0, 0);
        }
        D.due("FULL", x.reading(0, 0, 0), -4);
        SpanWidths one = Due.of("t1;p0100");
        for (int q : Due.not(0, 0)) D.due("of one COLUMN", one.reading(0, q, 0), -1);
        D.due("of no TABLE", new SpanWidths().reading(100, 0, 121), -1);
    }

    private static void backs() {
        D.by("The last k READINGS (0 .. as many as there are) are taken back: how many are left. OUTSIDE.");
        for (int many = 0; many <= 8; many++) {
            for (int k = -1; k <= many + 1; k++) {
                SpanWidths x = Due.of("t1;p0100");
                for (int r = 0; r < many; r++) x.reading(r, 0, r);
                boolean is = k >= 0 && k <= many;
                D.due("back(" + k + ") of " + many, x.back(k), is ? many - k : -2);
                D.due("left of " + many, x.many(4), is ? many - k : many);
            }
        }
        SpanWidths x = Due.of("t1;p0100");
        x.reading(0, 0, 0);
        for (int k : new int[] {MIN, MIN + 1, MAX}) D.due("back(" + k + ")", x.back(k), -2);
        D.due("of no TABLE, back(0)", new SpanWidths().back(0), 0);
        D.due("of no TABLE, back(1)", new SpanWidths().back(1), -2);
        D.due("of no TABLE, back(-1)", new SpanWidths().back(-1), -2);
        x.reading(0, 0, 9);
        D.due("the second is not so", x.manners(), 0);
        x.back(1);
        D.due("the last is taken, not the first", x.manners(), 7);
    }

    private static void eachIsLookedAt() {
        D.by("by which all READINGS are so");
        SpanWidths none = Due.of("t1;p0109");
        D.due("none: all KINDS", none.kinds(0), 7);
        D.due("none: all LOWS", none.lows(0), 1023);
        D.due("none: all MANNERS", none.manners(), 7);
        for (int not = 0; not <= 8; not++) {
            // plain, LOW 0: WIDTH is n by all MANNERS; the one that is not so comes at each of the eight places
            SpanWidths x = Due.of("t1;p0100");
            for (int k = 0; k < 8; k++) x.reading(k == 7 ? 99 : k, 0, k == not ? 120 : k == 7 ? 99 : k);
            D.due("MANNERS, not so: " + not, x.manners(), not == 8 ? 7 : 0);
            // framed for 0 units it were 1
            D.due("KINDS, not so: " + not, x.kinds(0), not == 8 ? 5 : 0);
            D.due("LOWS, not so: " + not, x.lows(0), not == 8 ? 1 : 0);
        }
        SpanWidths both = Due.of(TWO);
        both.reading(8, 0, 6);
        D.due("for 8", both.manners(), 1);
        both.reading(6, 0, 3);
        D.due("for 8 and 6: none does both", both.manners(), 0);
    }

    private static void ofHowAllIsNow() {
        D.by("All that follows: in place of what it is alone");
        SpanWidths x = Due.of(TWO);
        x.reading(10, 1, 4);
        D.due("4 by 1, 2", x.manners(), 6);
        D.due("promise", x.promise(1, 4), 0);
        D.due("4 by promise", x.manners(), 7);
        D.due("READINGS stay", x.many(4), 1);
        x.promise(1, 5);
        D.due("5 by promise", x.manners(), 0);
        D.due("content", x.content(1, 9, 9), 24);
        D.due("READINGS stay", x.many(4), 1);
        D.due("LOWS by the others", x.lows(1), 0);
        D.due("LOW is as it was", x.ofCell(1, 2), 9);
        D.due("the MANNER is as it was", x.many(5), 0);
        allElseStays();
    }

    /** KINDS and LOWS by what was told last: a MANNER, tenths, a LOW and a HIGH of the same CELL and of another. */
    private static void allElseStays() {
        for (int m = 0; m <= 2; m++) {
            SpanWidths x = Due.of(TWO);
            x.manner(m);
            x.reading(8, 0, 6);
            D.due("KINDS by MANNER " + m, x.kinds(1), m == 0 ? 1 : 0);
            D.due("LOWS by MANNER " + m, x.lows(1), m == 0 ? 7 : 0);
        }
        SpanWidths x = Due.of(TWO);
        x.reading(10, 0, 9);
        D.due("KINDS, nothing promised", x.kinds(1), 0);
        D.due("LOWS, nothing promised", x.lows(1), 0);
        x.promise(0, 9);
        // COLUMN 0 gets its 9 of 10 if COLUMN 1 must have no more than 1
        D.due("KINDS, 9 tenths promised", x.kinds(1), 0);
        D.due("LOWS, 9 tenths promised", x.lows(1), 3);
        x.content(1, 0, 4);
        D.due("KINDS of another LOW: 0 1 0", x.kinds(1), 7);
        x.content(1, 1, 4);
        D.due("KINDS of another LOW: 1 2 2", x.kinds(1), 1);
        SpanWidths y = Due.of(TWO);
        y.reading(0, 0, 3);
        y.content(0, 4, 9);
        D.due("LOWS of another HIGH", y.lows(0), 8);
        D.due("LOWS of a CELL that is not over it", y.lows(1), 0);
        D.due("KINDS of a CELL that is not over it", y.kinds(1), 0);
    }

    private static void kinds() {
        D.by("KINDS of a CELL: 0 .. 2");
        // for 0 units: by LOW 0, 1, 9 a CELL needs 0 1 0, 1 2 2, 9 10 18
        int[][] want = {{5, 2, 0, 0, 0, 0}, {0, 1, 6, 0, 0, 0}, {0, 0, 0, 1, 2, 4}};
        int[] low = {0, 1, 9};
        int[] read = {0, 1, 2, 9, 10, 18};
        for (int k = 0; k < low.length; k++) {
            for (int r = 0; r < read.length; r++) {
                for (String kind : new String[] {"p", "f", "d"}) {
                    SpanWidths x = Due.of("t1;" + kind + "01" + low[k] + low[k]);
                    x.reading(0, 0, read[r]);
                    D.due(kind + " of LOW " + low[k] + ", WIDTH " + read[r], x.kinds(0), want[k][r]);
                }
            }
        }
        SpanWidths x = Due.of("t1;p0199;p0133");
        x.reading(0, 0, 9);
        D.due("another CELL needs more whatever this is", x.kinds(1), 7);
        D.due("this one as it is", x.kinds(0), 1);
        SpanWidths most = Due.of("t2;p0109;p1109");
        most.reading(19, 0, 10);
        D.due("by MOST, too: 10 9, 10 9, 14 5", most.kinds(0), 3);
    }

    private static void kindsRefused() {
        D.by("KINDS, as a set. UNKNOWN.");
        SpanWidths nine = Due.of("t1" + ";p0100".repeat(9));
        D.due("the ninth", nine.kinds(8), 7);
        for (int c : Due.not(0, 8)) D.due("kinds(" + c + ")", nine.kinds(c), -1);
        for (int c : Due.not(0, 0)) D.due("of one CELL, kinds(" + c + ")", Due.of("t1;p0100").kinds(c), -1);
        D.due("of no TABLE", new SpanWidths().kinds(0), -1);
    }

    private static void lows() {
        D.by("LOWS of a CELL: 0 .. its HIGH");
        for (int high = 0; high <= 9; high++) {
            for (int low = 0; low <= high; low++) {
                SpanWidths x = Due.of("t1;p01" + low + high);
                D.due("LOW " + low + ", HIGH " + high, x.lows(0), (1 << high + 1) - 1);
                for (int v = 0; v <= 10; v++) {
                    x.reading(0, 0, v);
                    D.due("WIDTH " + v + " of HIGH " + high, x.lows(0), v <= high ? 1 << v : 0);
                    x.back(1);
                }
            }
        }
        SpanWidths d = Due.of("t1;d0199");
        d.reading(0, 0, 18);
        D.due("twice 9", d.lows(0), 512);
        d.reading(0, 0, 17);
        D.due("never odd", d.lows(0), 0);
        SpanWidths f = Due.of("t1;f0109");
        f.reading(0, 0, 0);
        D.due("framed, never 0", f.lows(0), 0);
    }

    private static void lowsRefused() {
        D.by("LOWS, as a set. UNKNOWN.");
        SpanWidths nine = Due.of("t1" + ";p0100".repeat(8) + ";p0109");
        D.due("the ninth", nine.lows(8), 1023);
        for (int c : Due.not(0, 8)) D.due("lows(" + c + ")", nine.lows(c), -1);
        for (int c : Due.not(0, 0)) D.due("of one CELL, lows(" + c + ")", Due.of("t1;p0100").lows(c), -1);
        D.due("of no TABLE", new SpanWidths().lows(0), -1);
    }

    private static void manners() {
        D.by("MANNERS: 0 .. 2; as sets");
        int[] want = {0, 0, 0, 0, 2, 4, 1, 0};
        for (int now = 0; now <= 2; now++) {
            for (int v = 0; v < want.length; v++) {
                SpanWidths x = Due.of(TWO);
                x.manner(now);
                x.reading(8, 0, v);
                D.due("WIDTH " + v + " for 8, by " + now, x.manners(), want[v]);
            }
        }
        D.by("MANNERS, as a set. STATE: there is no TABLE.");
        D.due("of no TABLE", new SpanWidths().manners(), -3);
        SpanWidths x = new SpanWidths();
        Due.tell(x, "t1;p01");
        D.due("of a TEXT that wasn't taken", x.manners(), -3);
    }

    private static void tablesOfOdds() {
        D.by("of TABLES of 0 .. 63 units, all alike, the share of those for which it has WIDTH v or more");
        // WIDTH is n: v or more for 64 less v of them
        SpanWidths x = Due.of("t1;p0100");
        int[][] want = {{0, 1, 1}, {1, 63, 64}, {2, 31, 32}, {4, 15, 16}, {8, 7, 8}, {16, 3, 4}, {31, 33, 64}, {32, 1, 2},
            {33, 31, 64}, {48, 1, 4}, {62, 1, 32}, {63, 1, 64}, {64, 0, 1}, {98, 0, 1}, {99, 0, 1}};
        for (int[] w : want) oddsAre(x, 0, w[0], w[1], w[2]);
        // MUST is 18: in all of them 18, never less; 19 from 19 units on
        SpanWidths y = Due.of("t1;d0199");
        oddsAre(y, 0, 18, 1, 1);
        oddsAre(y, 0, 19, 45, 64);
        SpanWidths six = Due.of("t6;p0100");
        oddsAre(six, 5, 10, 1, 16);
        oddsAre(six, 5, 11, 0, 1);
        oddsAre(six, 2, 11, 1, 64);
    }

    private static void leastTerms() {
        D.by("Shares are told as upper and lower number (above 0) in least terms");
        SpanWidths x = Due.of("t1;p0100");
        for (int v = 0; v <= 99; v++) {
            int upper = Math.max(0, 64 - v);
            int by = upper == 0 ? 64 : Integer.lowestOneBit(upper);
            oddsAre(x, 0, v, upper / by, 64 / by);
        }
    }

    private static void oddsAre(SpanWidths x, int q, int v, int upper, int lower) {
        D.due("odds(" + q + ", " + v + ", 0)", x.odds(q, v, 0), upper);
        D.due("odds(" + q + ", " + v + ", 1)", x.odds(q, v, 1), lower);
    }

    private static void oddsRefused() {
        D.by("ODDS of a COLUMN, v (0 .. 99; which 0 the upper, 1 the lower number). LOST: UNKNOWN; OUTSIDE.");
        SpanWidths x = Due.of("t6;p0100");
        D.due("odds(5, 0, 0)", x.odds(5, 0, 0), 1);
        D.due("odds(0, 99, 1)", x.odds(0, 99, 1), 1);
        for (int q : Due.not(0, 5)) D.due("odds(" + q + ", 0, 0)", x.odds(q, 0, 0), LOST);
        for (int v : Due.not(0, 99)) D.due("odds(0, " + v + ", 0)", x.odds(0, v, 0), LOST);
        for (int which : Due.not(0, 1)) D.due("odds(0, 0, " + which + ")", x.odds(0, 0, which), LOST);
        for (int q : Due.not(0, 0)) D.due("of one COLUMN, odds(" + q + ", 0, 0)", Due.of("t1;p0100").odds(q, 0, 0), LOST);
        D.due("of no TABLE", new SpanWidths().odds(0, 0, 0), LOST);
    }
}
