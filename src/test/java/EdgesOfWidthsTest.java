import java.math.BigDecimal;

/** Promises 8 to 13, and what Terms say of WIDTHS, DAYS, FIRST n, SHARE and MEAN: each sentence that names an edge, one by one. */
public final class EdgesOfWidthsTest {
    private static final Due D = new Due("EdgesOfWidthsTest");
    private static final int MIN = Due.MIN, MAX = Due.MAX;
    private static final long LOST = SpanWidths.LOST;
    /** MUST 3 2, WOULD 7 4. */
    private static final String TWO = "t2;p0137;p1124";
    private static final String SIX_DOUBLES = "t6;d0199;d1199;d2199;d3199;d4199;d5199";

    public static void main(String[] args) {
        mustsAtFirst();
        promisesAreCut();
        promisesInOrder();
        promisesOfWhatOneHas();
        manner0();
        manner1();
        manner2();
        severalAlike();
        toTheVeryLastUnit();
        spills();
        fits();
        overfull();
        widest();
        widthRefused();
        wholeRefused();
        dayOfNoPairs();
        dayOfTwentyPairs();
        dayOfHighs();
        dayOfPromises();
        dayOfManners();
        dayActs();
        firstWrongs();
        dayWhats();
        dayRefused();
        dayOfNothing();
        dayOfIndex();
        dayOfLanes();
        firstFits();
        shares();
        floats();
        means();
        sets();
        D.end();
    }

    private static SpanWidths by(int manner, String text) {
        SpanWidths x = Due.of(text);
        x.manner(manner);
        return x;
    }

    // ---- WIDTHS

    private static void mustsAtFirst() {
        D.by("at first each has its MUST");
        for (int m = 0; m < 3; m++) {
            SpanWidths x = by(m, TWO);
            x.promise(1, 9);
            for (int n = 0; n <= 5; n++) D.dueRow("for " + n + " by " + m, Due.widths(x, n), 3, 2);
        }
        D.dueRow("more than 99", Due.widths(Due.of(SIX_DOUBLES), 99), 18, 18, 18, 18, 18, 18);
        D.dueRow("for 0, of 0", Due.widths(Due.of("t2;p0100"), 0), 0, 0);
    }

    private static void promisesAreCut() {
        D.by("each that is PROMISED p tenths and has less than n times p by 10, cut, gets 1 after 1, up to this");
        // by MANNER 1 what is left goes to COLUMN 1 as long as that has less
        SpanWidths x = by(1, "t2;p0155");
        x.promise(0, 9);
        int[] want = {5, 5, 5, 5, 5, 5, 5, 6, 7, 8, 9, 9, 10, 11, 12, 13, 14, 15, 16, 17, 18, 18, 19};
        for (int n = 0; n < want.length; n++) D.due("nine tenths of " + n, x.width(0, n), want[n]);
        D.due("nine tenths of 99", x.width(0, 99), 89);
        D.due("nine tenths of 98", x.width(0, 98), 88);
        D.by("A COLUMN is PROMISED p tenths (0 .. 9; 0: none)");
        SpanWidths y = Due.of("t2;p0109");
        D.dueRow("none is promised", Due.widths(y, 9), 9, 0);
        y.promise(1, 1);
        D.dueRow("a tenth of 9 is none", Due.widths(y, 9), 9, 0);
        D.dueRow("a tenth of 10", Due.widths(y, 10), 9, 1);
        y.promise(1, 0);
        D.dueRow("0 tenths of 10", Due.widths(y, 10), 10, 0);
    }

    private static void promisesInOrder() {
        D.by("as long as all WIDTHS together are less than n");
        SpanWidths x = Due.of("t3;p0100");
        x.promise(0, 9);
        x.promise(1, 9);
        x.promise(2, 9);
        D.dueRow("of 1", Due.widths(x, 1), 1, 0, 0);
        D.dueRow("of 2", Due.widths(x, 2), 1, 1, 0);
        D.dueRow("of 3", Due.widths(x, 3), 2, 1, 0);
        D.dueRow("of 10", Due.widths(x, 10), 9, 1, 0);
        D.dueRow("of 99", Due.widths(x, 99), 89, 10, 0);
        x.promise(0, 1);
        D.dueRow("the second ahead of the third", Due.widths(x, 10), 1, 9, 0);
        x.promise(1, 4);
        x.promise(2, 5);
        D.dueRow("just all of it", Due.widths(x, 10), 1, 4, 5);
        x.promise(2, 6);
        D.dueRow("one too many", Due.widths(x, 10), 1, 4, 5);
    }

    private static void promisesOfWhatOneHas() {
        D.by("and has less than n times p by 10, cut");
        SpanWidths x = by(1, "t2;p0155");
        x.promise(0, 5);
        D.dueRow("5 of 10: it has them", Due.widths(x, 10), 5, 5);
        D.dueRow("5 of 11, cut", Due.widths(x, 11), 6, 5);
        x.promise(0, 4);
        D.dueRow("less than it has", Due.widths(x, 10), 5, 5);
        x.promise(0, 6);
        D.dueRow("1 more than it has", Due.widths(x, 10), 6, 4);
        x.promise(0, 0);
        x.promise(1, 9);
        D.dueRow("9 of 6, of which 1 is free", Due.widths(x, 6), 5, 1);
        D.dueRow("9 of 5, of which none is free", Due.widths(x, 5), 5, 0);
    }

    /** want: WIDTH of COLUMN 0 for 5, 6, .. units. */
    private static void growsAs(SpanWidths x, int... want) {
        for (int k = 0; k < want.length; k++) D.dueRow("for " + (5 + k), Due.widths(x, 5 + k), want[k], 5 + k - want[k]);
    }

    private static void manner0() {
        D.by("By MANNER 0: that with the greatest WOULD less its WIDTH");
        growsAs(by(0, TWO), 3, 4, 5, 6, 6, 7, 7, 8, 8, 9, 9);
    }

    private static void manner1() {
        D.by("1: that with the least WIDTH");
        growsAs(by(1, TWO), 3, 3, 4, 4, 5, 6, 7, 7, 7, 7, 8);
    }

    private static void manner2() {
        D.by("2: that with the least WIDTH by (WOULD and 1), as a FLOAT");
        growsAs(by(2, TWO), 3, 4, 4, 5, 5, 6, 7, 7, 8, 9);
        // WOULD 0: a WIDTH by 1
        SpanWidths x = by(2, "t2;p0101;p1100");
        D.dueRow("WOULD 0 is full at once", Due.widths(x, 1), 1, 0);
        D.dueRow("0 by 1 is less than 1 by 2", Due.widths(x, 2), 1, 1);
        D.dueRow("1 by 2 is less than 1 by 1", Due.widths(x, 3), 2, 1);
        D.dueRow("2 by 2 is 1 by 1: the first", Due.widths(x, 4), 3, 1);
    }

    private static void severalAlike() {
        D.by("of several always the first");
        for (int m = 0; m < 3; m++) {
            SpanWidths x = by(m, "t6;p0101;p1101;p2101;p3101;p4101;p5101");
            for (int n = 0; n <= 24; n++) {
                for (int q = 0; q < 6; q++) D.due("manner " + m + ", width(" + q + ", " + n + ")", x.width(q, n), (n + 5 - q) / 6);
            }
        }
    }

    private static void toTheVeryLastUnit() {
        D.by("if any WIDTH is less than its COLUMN's WOULD, one of these COLUMNS gets 1 more, chosen by the MANNER; else one of all, chosen by it");
        for (int m = 0; m < 3; m++) {
            SpanWidths x = by(m, "t3;p2109");
            for (int n = 0; n <= 9; n++) D.dueRow("only the last wants any, " + n, Due.widths(x, n), 0, 0, n);
            SpanWidths y = by(m, "t3;p0144;p1155;d2133");
            for (int n = 15; n <= 99; n++) D.due("none wants any, " + n, y.whole(n, 0), n);
        }
        SpanWidths full = by(1, "t3;p2109");
        D.dueRow("1 more than all want", Due.widths(full, 10), 1, 0, 9);
        // COLUMN 0 was promised more than it would have; the others come first all the same
        SpanWidths z = by(1, "t2;p1104");
        z.promise(0, 2);
        D.dueRow("what wants goes first", Due.widths(z, 5), 1, 4);
        D.dueRow("then all", Due.widths(z, 6), 2, 4);
    }

    private static void spills() {
        D.by("They SPILL, if they are more than n together (MUSTS alone are).");
        SpanWidths x = Due.of(TWO);
        D.due("one too many", x.whole(4, 1), 1);
        D.due("just as many", x.whole(5, 1), 0);
        D.due("fewer", x.whole(6, 1), 0);
        D.due("99", x.whole(99, 1), 0);
        D.due("0 of 0", Due.of("t1;p0109").whole(0, 1), 0);
        D.due("1 of 0", Due.of("t1;p0119").whole(0, 1), 1);
        SpanWidths y = Due.of("t6;d0199;d1199;d2199;d3199;d4199;p5199");
        D.due("99 of 99", y.whole(99, 1), 0);
        D.due("99 of 98", y.whole(98, 1), 1);
        D.due("108 of 99", Due.of(SIX_DOUBLES).whole(99, 1), 1);
        D.by("all WIDTHS together");
        D.due("for 4", x.whole(4, 0), 5);
        D.due("for 5", x.whole(5, 0), 5);
        D.due("for 6", x.whole(6, 0), 6);
        D.due("for 99", x.whole(99, 0), 99);
        D.due("108", Due.of(SIX_DOUBLES).whole(0, 0), 108);
    }

    private static void fits() {
        D.by("A CELL FITS, if WIDTHS of its COLUMNS together are no less than its MOST; it is CRAMPED, if not");
        SpanWidths x = Due.of(TWO);
        D.due("6 3", x.whole(9, 2), 3);
        D.due("7 3: just its MOST", x.whole(10, 2), 2);
        D.due("7 4", x.whole(11, 2), 0);
        // MOST 9 over 0 1, 8 over all, 9 over 2: MUST 0 0 1, WOULD 5 4 9
        SpanWidths y = Due.of("t3;p0209;d0304;f2108");
        D.due("for 0", y.whole(0, 2), 7);
        D.due("for 7, 2 0 5", y.whole(7, 2), 7);
        D.due("for 8, 2 1 5: over all three together", y.whole(8, 2), 5);
        D.due("for 17, 5 4 8", y.whole(17, 2), 4);
        D.due("for 18, 5 4 9", y.whole(18, 2), 0);
        D.due("MOST 0 FITS in 0", Due.of("t1;p0100;d0100").whole(0, 2), 0);
        D.due("MOST 1 does not", Due.of("t1;p0100;p0101").whole(0, 2), 2);
        D.due("all nine", Due.of("t2" + ";p0209".repeat(9)).whole(8, 2), 511);
        D.due("none of nine", Due.of("t2" + ";p0209".repeat(9)).whole(9, 2), 0);
    }

    private static void overfull() {
        D.by("and OVERFULL, if they are less than its LEAST");
        // MUST has every LEAST, and no WIDTH is less than MUST
        for (String text : new String[] {TWO, SIX_DOUBLES, "t3;p0399;f0277;d1244;p2199"}) {
            SpanWidths x = Due.of(text);
            for (int n : new int[] {0, 1, 5, 98, 99}) D.due(text + " for " + n, x.whole(n, 3), 0);
        }
    }

    private static void widest() {
        D.by("4 the widest COLUMN (of several the first)");
        D.due("all 0", Due.of("t6;p0100").whole(0, 4), 0);
        D.due("the last", Due.of("t6;p5111").whole(0, 4), 5);
        D.due("two alike behind one", Due.of("t3;p1111;p2111").whole(0, 4), 1);
        D.due("one more than another", Due.of("t3;p1111;p2122").whole(0, 4), 2);
        D.due("all alike", Due.of(SIX_DOUBLES).whole(99, 4), 0);
        D.due("of one", Due.of("t1;p0100").whole(99, 4), 0);
    }

    private static void widthRefused() {
        D.by("WIDTH of a COLUMN for n units (0 .. 99). UNKNOWN; OUTSIDE.");
        SpanWidths one = Due.of("t1;p0100");
        for (int n : new int[] {0, 1, 98, 99}) D.due("width(0, " + n + ")", one.width(0, n), n);
        for (int n : Due.not(0, 99)) D.due("width(0, " + n + ")", one.width(0, n), -2);
        for (int q : Due.not(0, 0)) D.due("width(" + q + ", 0)", one.width(q, 0), -1);
        SpanWidths six = Due.of("t6;p5111");
        D.due("width(5, 0)", six.width(5, 0), 1);
        D.due("width(0, 0)", six.width(0, 0), 0);
        for (int q : Due.not(0, 5)) {
            D.due("width(" + q + ", 99)", six.width(q, 99), -1);
            D.due("UNKNOWN ahead of OUTSIDE", six.width(q, 100), -1);
        }
        D.due("of no TABLE", new SpanWidths().width(0, 100), -1);
    }

    private static void wholeRefused() {
        D.by("STATE: there is no TABLE; OUTSIDE.");
        SpanWidths x = Due.of("t1;p0100");
        D.due("whole(0, 0)", x.whole(0, 0), 0);
        D.due("whole(99, 4)", x.whole(99, 4), 0);
        D.due("whole(99, 0)", x.whole(99, 0), 99);
        for (int n : Due.not(0, 99)) D.due("whole(" + n + ", 0)", x.whole(n, 0), -2);
        for (int what : Due.not(0, 4)) D.due("whole(0, " + what + ")", x.whole(0, what), -2);
        for (int what = 0; what <= 4; what++) D.due("of no TABLE, whole(0, " + what + ")", new SpanWidths().whole(0, what), -3);
        D.due("STATE ahead of OUTSIDE: n", new SpanWidths().whole(100, 0), -3);
        D.due("STATE ahead of OUTSIDE: what", new SpanWidths().whole(0, 5), -3);
    }

    // ---- a day

    /** A day told by a row of pairs, for n units. */
    private static int lived(SpanWidths x, int n, int what, int... pairs) {
        Due.write(x, 0, Due.INTS, pairs);
        return x.day(0, Due.INTS, 0, pairs.length / 2, n, what);
    }

    private static void dayOfNoPairs() {
        D.by("A DAY told: a row of pairs, one behind another, from how all is now (nothing is changed)");
        SpanWidths x = Due.of(TWO);
        x.promise(1, 4);
        x.manner(1);
        int[] want = {5, -9, 11, 1, 0};
        for (int what = 0; what <= 4; what++) D.due("no pairs, what " + what, lived(x, 10, what), want[what]);
        D.due("no pairs, what 10", lived(x, 10, 10), 6);
        D.due("no pairs, what 11", lived(x, 10, 11), 4);
    }

    private static void dayOfTwentyPairs() {
        D.by("k (0 .. 20)");
        SpanWidths x = Due.of(TWO);
        int[] row = new int[60];
        for (int k = 0; k < 30; k++) {
            row[2 * k] = k % 10;
            row[2 * k + 1] = 20;
        }
        row[38] = 1;
        row[39] = 30;
        Due.write(x, 1, Due.BYTES, row);
        // nine tenths of 20 for COLUMN 0 are 18; with the twentieth pair, which is a MANNER, as well
        D.due("19 pairs", x.day(1, 0, 0, 19, 20, 10), 18 - 2);
        D.due("20 pairs", x.day(1, 0, 0, 20, 20, 10), 18 - 2);
        D.due("20 pairs, the last 20", x.day(1, 0, 20, 20, 20, 10), 18);
        for (int k : Due.not(0, 20)) D.due(x, k + " pairs", x.day(1, 0, 0, k, 20, 10), -2, 0);
        row[39] = 31;
        Due.write(x, 1, Due.BYTES, row);
        D.due("the twentieth is looked at", x.day(1, 0, 0, 20, 20, 10), -2);
        D.due("it isn't with 19", x.day(1, 0, 0, 19, 20, 10), 18 - 2);
    }

    private static void dayOfHighs() {
        D.by("a HIGH (0 .. 9) and 0 .. 8: HIGH of that CELL becomes that, LOW, too, if it was more");
        SpanWidths x = Due.of(TWO);
        int[] must = {2, 3, 4, 5, 5, 5, 5, 5, 5, 5};
        int[] would = {4, 5, 6, 7, 8, 9, 10, 11, 12, 13};
        for (int high = 0; high <= 9; high++) {
            D.due("HIGH " + high + ", all MUSTS", lived(x, 0, 0, high, 0), must[high]);
            D.due("HIGH " + high + ", all WOULDS", lived(x, 0, 2, high, 0), would[high]);
        }
        D.due("a HIGH of 10", lived(x, 0, 0, 10, 0), -2);
        D.due("a HIGH of -1", lived(x, 0, 0, -1, 0), -2);
        D.due("LOW does not come back", lived(x, 0, 0, 0, 0, 9, 0), 2);
        D.due("HIGH does", lived(x, 0, 2, 0, 0, 9, 0), 13);
        SpanWidths nine = Due.of("t1" + ";p0100".repeat(9));
        D.due("the ninth CELL", lived(nine, 0, 2, 9, 8), 9);
        D.due("LOW stays 0", lived(nine, 0, 0, 9, 8), 0);
        D.due("CRAMPED then", lived(nine, 8, 3, 9, 8), 256);
        D.due("not CRAMPED then", lived(nine, 9, 3, 9, 8), 0);
    }

    private static void dayOfPromises() {
        D.by("tenths (0 .. 9) and 20 .. 25: the COLUMN that is 20 less is PROMISED these");
        SpanWidths x = Due.of("t6;p0100");
        D.due("9 for COLUMN 0", lived(x, 20, 10, 9, 20), 18);
        D.due("9 for COLUMN 5", lived(x, 20, 15, 9, 25), 18);
        D.due("9, then 0", lived(x, 6, 15, 9, 25, 0, 25), 1);
        D.due("10", lived(x, 0, 1, 10, 20), -2);
        D.due("-1", lived(x, 0, 1, -1, 25), -2);
        D.due("the widest then", lived(x, 20, 4, 9, 25), 5);
    }

    private static void dayOfManners() {
        D.by("a MANNER (0 .. 2) and 30");
        SpanWidths x = Due.of(TWO);
        int[] want = {6, 4, 5};
        for (int m = 0; m <= 2; m++) D.due("MANNER " + m, lived(x, 8, 10, m, 30), want[m]);
        D.due("the last counts", lived(x, 8, 10, 2, 30, 1, 30), 4);
        for (int m : Due.not(0, 2)) D.due("MANNER " + m, lived(x, 8, 1, m, 30), -2);
    }

    private static void dayActs() {
        D.by("pair by pair OUTSIDE: the second is not 0 .. 8, 20 .. 25, 30, the first is not as told with it");
        SpanWidths all = Due.of("t6" + ";p0100".repeat(9));
        for (int act = -2; act <= 33; act++) {
            boolean is = act >= 0 && act <= 8 || act >= 20 && act <= 25 || act == 30;
            Due.write(all, 0, Due.BYTES, 0, act);
            D.due(all, "0 and " + act, all.day(0, 0, 0, 1, 0, 1), is ? -9 : -2, 0);
        }
        for (int act : new int[] {MIN, MAX, 256, 65536, MIN + 20, 1 << 30}) D.due("0 and " + act, lived(all, 0, 1, 0, act), -2);
        for (int first : new int[] {MIN, MAX, 256, 65536, MIN + 1}) {
            for (int act : new int[] {0, 8, 20, 25, 30}) D.due(first + " and " + act, lived(all, 0, 1, first, act), -2);
        }
        D.due("the second of two", lived(all, 0, 1, 0, 0, 0, 9), -2);
        D.due("the first of two", lived(all, 0, 1, 0, 9, 0, 0), -2);
        D.due("behind a wrong act", lived(Due.of("t1;p0100"), 0, 1, 0, 8, 0, 9), -2);
    }

    private static void firstWrongs() {
        D.by("FIRST WRONG: the first act that can't be (there is no such CELL, COLUMN).");
        for (int many = 1; many <= 6; many++) {
            SpanWidths x = Due.of("t" + many + ";p0100".repeat(many));
            D.due(many + ", the last CELL", lived(x, 0, 1, 0, many - 1), -9);
            D.due(many + ", a CELL more", lived(x, 0, 1, 0, many), 0);
            D.due(many + ", the last COLUMN", lived(x, 0, 1, 0, 20 + many - 1), -9);
            D.due(many + ", a COLUMN more", lived(x, 0, 1, 0, 20 + many), many == 6 ? -2 : 0);
        }
        SpanWidths x = Due.of("t1;p0100");
        int[] pairs = new int[40];
        for (int k = 0; k < 20; k++) pairs[2 * k + 1] = 30;
        for (int k = 19; k >= 0; k--) {
            pairs[2 * k + 1] = k % 2 == 0 ? 8 : 25;
            D.due("the first is " + k, lived(x, 0, 1, pairs), k);
            D.by("of one with a FIRST WRONG: -100 less that (but what 1)");
            for (int what : new int[] {0, 2, 3, 4, 10, 15}) D.due("the first is " + k + ", what " + what, x.day(0, 2, 0, 20, 0, what), -100 - k);
        }
    }

    private static void dayWhats() {
        D.by("WIDTH of COLUMN q then (10 and q; NONE: there is no such COLUMN)");
        for (int columns = 1; columns <= 6; columns++) {
            SpanWidths x = Due.of("t" + columns + ";p0100");
            x.sheet(0, Due.INTS, 0);
            for (int q = 0; q < 6; q++) {
                D.due(columns + ", what " + (10 + q), x.day(0, 2, 0, 0, columns, 10 + q), q < columns ? 1 : -9);
            }
        }
        D.by("what (0 .. 4, 10 .. 15)");
        SpanWidths x = Due.of("t1;p0100");
        x.sheet(0, Due.INTS, 0);
        for (int what = -2; what <= 18; what++) {
            int want = what >= 0 && what <= 4 ? what == 1 ? -9 : 0 : what == 10 ? 0 : what > 10 && what <= 15 ? -9 : -2;
            D.due(x, "what " + what, x.day(0, 2, 0, 0, 0, what), want, 0);
        }
        for (int what : new int[] {MIN, MAX}) D.due(x, "what " + what, x.day(0, 2, 0, 0, 0, what), -2, 0);
        D.by("n (0 .. 99)");
        D.due("n 0", x.day(0, 2, 0, 0, 0, 10), 0);
        D.due("n 99", x.day(0, 2, 0, 0, 99, 10), 99);
        for (int n : Due.not(0, 99)) D.due(x, "n " + n, x.day(0, 2, 0, 0, n, 10), -2, 0);
    }

    private static void dayRefused() {
        D.by("UNKNOWN: SHEET; OUTSIDE: lane, k (0 .. 20), n (0 .. 99), what (0 .. 4, 10 .. 15); FAULTS CAST, NULL, INDEX; STATE: there is no TABLE");
        SpanWidths x = new SpanWidths();
        for (int k = 0; k < 4; k++) Due.write(x, k, Due.SHORTS, 0, 9);
        // each call has all that is wrong behind it in the line, too
        for (int k : Due.not(0, 3)) D.due(x, "UNKNOWN ahead of OUTSIDE", x.day(k, 3, 3, 21, 100, 5), -1, 0);
        for (int lane : Due.not(0, 2)) D.due(x, "OUTSIDE: lane " + lane, x.day(0, lane, 3, 1, 0, 0), -2, 0);
        D.due(x, "OUTSIDE ahead of CAST: k", x.day(0, 0, 3, 21, 0, 0), -2, 0);
        D.due(x, "OUTSIDE ahead of CAST: n", x.day(0, 0, 3, 1, 100, 0), -2, 0);
        D.due(x, "OUTSIDE ahead of CAST: what", x.day(0, 0, 3, 1, 0, 5), -2, 0);
        D.due(x, "CAST ahead of INDEX", x.day(0, 0, 3, 1, 0, 0), -12, 2);
        D.due(x, "INDEX ahead of STATE", x.day(0, 1, 1, 1, 0, 0), -13, 3);
        for (int k = 0; k < 4; k++) D.due(x, "STATE ahead of a pair that is none", x.day(k, 1, 0, 1, 0, 0), -3, 0);
        D.due(x, "STATE without a pair", x.day(0, 1, 2, 0, 0, 1), -3, 0);
        Due.writeText(x, 3, Due.BYTES, "t1;p0100");
        x.table(3, 0, 0, 8);
        D.due(x, "then the pair", x.day(0, 1, 0, 1, 0, 0), -2, 0);
    }

    private static void dayOfNothing() {
        D.by("1 NULL (there is nothing)");
        for (String text : new String[] {"t1;p0100", ""}) {
            SpanWidths x = new SpanWidths();
            Due.tell(x, text);
            for (int lane = 0; lane < 3; lane++) {
                D.due(x, "never a row", x.day(0, lane, 0, 0, 0, 0), -11, 1);
                x.sheet(1, lane, 2);
                x.lose(1);
                D.due(x, "a row lost, as of lane " + lane, x.day(1, 0, -1, 1, 0, 0), -11, 1);
            }
        }
    }

    private static void dayOfIndex() {
        D.by("3 INDEX (of cells from i on also where i is not 0 .. how many there are, if none of them is taken, too)");
        SpanWidths x = Due.of("t1;p0100");
        for (int length = 0; length <= 5; length++) {
            x.sheet(0, 0, length);
            for (int i = -1; i <= length + 1; i++) {
                for (int k = 0; k <= 3; k++) {
                    boolean there = i >= 0 && i <= length && i + 2 * k <= length;
                    D.due(x, k + " pairs from " + i + " on of " + length, x.day(0, 0, i, k, 0, 1), there ? -9 : -13, there ? 0 : 3);
                }
            }
            for (int i : new int[] {MIN, MAX, MAX - 1, -40}) D.due(x, "from " + i + " on", x.day(0, 0, i, 20, 0, 1), -13, 3);
            for (int i : new int[] {MIN, MAX}) D.due(x, "none from " + i + " on", x.day(0, 0, i, 0, 0, 1), -13, 3);
        }
        x.sheet(0, 0, 60);
        D.due(x, "20 pairs to the very end of 60", x.day(0, 0, 20, 20, 0, 1), -9, 0);
        D.due(x, "20 pairs beyond the end of 60", x.day(0, 0, 21, 20, 0, 1), -13, 3);
    }

    private static void dayOfLanes() {
        D.by("what comes to a cell of it is cut to its LANE");
        SpanWidths x = Due.of("t1;p0100");
        Due.write(x, 0, Due.BYTES, 256 + 7, 65536);
        Due.write(x, 1, Due.SHORTS, 65536 + 7, 65536);
        Due.write(x, 2, Due.SHORTS, 256 + 7, 0);
        Due.write(x, 3, Due.INTS, 65536 + 7, 0);
        D.due("bytes", x.day(0, 0, 0, 1, 0, 2), 7);
        D.due("shorts", x.day(1, 1, 0, 1, 0, 2), 7);
        D.due("shorts aren't cut to bytes", x.day(2, 1, 0, 1, 0, 2), -2);
        D.due("ints aren't cut to shorts", x.day(3, 2, 0, 1, 0, 2), -2);
    }

    // ---- shares

    private static void firstFits() {
        D.by("FIRST n of a CELL: the least TABLE of 0 .. 99 units in which it FITS; NONE.");
        D.due("in 0", Due.of("t1;p0100").firstFit(0), 0);
        D.due("in 0, for MUST has it", Due.of("t1;d0199").firstFit(0), 0);
        D.due("in 1", Due.of("t1;p0101").firstFit(0), 1);
        D.due("in 18", Due.of("t1;d0109").firstFit(0), 18);
        // all else, 5 times 18, goes first: by MANNER 0 COLUMN 5 gets its last as the very last of 99
        D.due("in 99", Due.of("t6;d0109;d1109;d2109;d3109;d4109;p5109").firstFit(5), 99);
        D.due("not in 99: 100 are wanted", Due.of("t6;d0109;d1109;d2109;d3109;d4109;f5109").firstFit(5), -9);
        SpanWidths x = Due.of("t2;p0100;f1109");
        x.promise(0, 9);
        D.due("10 of 91: 81 are promised", x.firstFit(1), 91);
        // half and half are promised: 1 is left of each odd number, none of each even one
        SpanWidths half = Due.of("t3;p2101;p2102");
        half.promise(0, 5);
        half.promise(1, 5);
        D.due("the least counts, though it does not FIT in 2", half.firstFit(0), 1);
        D.due("never 2", half.firstFit(1), -9);
        D.due("CRAMPED in 2", half.whole(2, 2), 3);
        for (int c : Due.not(0, 1)) D.due("firstFit(" + c + ")", Due.of(TWO).firstFit(c), -1);
        D.due("the ninth", Due.of("t1" + ";p0100".repeat(8) + ";p0107").firstFit(8), 7);
        D.due("a tenth", Due.of("t1" + ";p0100".repeat(9)).firstFit(9), -1);
        D.due("of no TABLE", new SpanWidths().firstFit(0), -1);
    }

    private static void shares() {
        D.by("SHARE of a COLUMN for n: its WIDTH by all WIDTHS together, as a FLOAT (0, if these are 0).");
        D.due("0 by 0", Due.of("t1;p0109").share(0, 0), 0);
        D.due("0 by 0, the last of six", Due.of("t6;p0100").share(5, 0), 0);
        D.due("0 by 1", Due.of("t6;p0101").share(5, 1), 0);
        D.due("1 by 1", Due.of("t1;p0109").share(0, 1), 0x3f800000);
        D.due("99 by 99", Due.of("t1;p0109").share(0, 99), 0x3f800000);
        D.due("18 by 108, more than n", Due.of(SIX_DOUBLES).share(5, 99), 0x3e2aaaab);
        D.due("1 by 2", Due.of("t2;p0100").share(0, 2), 0x3f000000);
        D.due("1 by 3, up", Due.of("t3;p0100").share(0, 3), 0x3eaaaaab);
        D.due("1 by 5, up", Due.of("t5;p0100").share(4, 5), 0x3e4ccccd);
        SpanWidths x = Due.of("t2;p0100");
        x.promise(0, 9);
        x.manner(1);
        D.due("9 by 10, down", x.share(0, 10), 0x3f666666);
        D.due("1 by 10, up", x.share(1, 10), 0x3dcccccd);
        D.by("SHARE of a COLUMN for n units (0 .. 99), as a FLOAT. UNKNOWN; OUTSIDE.");
        for (int n : Due.not(0, 99)) D.due("share(0, " + n + ")", x.share(0, n), -2);
        for (int q : Due.not(0, 1)) {
            D.due("share(" + q + ", 0)", x.share(q, 0), -1);
            D.due("UNKNOWN ahead of OUTSIDE", x.share(q, 100), -1);
        }
        D.due("of no TABLE", new SpanWidths().share(0, 100), -1);
    }

    private static void floats() {
        D.by("FLOATS as the bits of that number of single precision, DOUBLES of double precision, that is nearest to what is told");
        for (int a = 0; a <= 9; a++) {
            for (int b = 0; b <= 9; b++) {
                // MUSTS alone: 2 a, 2 b and 18
                SpanWidths x = Due.of("t3;d01" + a + a + ";d11" + b + b + ";d2199");
                int all = 2 * a + 2 * b + 18;
                D.due(2 * a + " by " + all, x.share(0, 0), nearest(2 * a, all));
                D.due(2 * b + " by " + all, x.share(1, 18), nearest(2 * b, all));
                D.due(all + " by 3", x.mean(0), Double.doubleToLongBits(all / 3.0));
            }
        }
        for (int p = 1; p <= 9; p++) {
            SpanWidths x = Due.of("t2;p0100");
            x.manner(1);
            x.promise(0, p);
            for (int n = 1; n <= 99; n += 7) {
                D.due(p + " tenths of " + n, x.share(0, n), nearest(x.width(0, n), n));
            }
        }
    }

    /** The nearest of the float that a division gives and its neighbours, looked for in exact numbers. */
    private static int nearest(int upper, int lower) {
        float best = (float) upper / (float) lower;
        for (float other : new float[] {Math.nextUp(best), Math.nextDown(best)}) {
            if (distance(other, upper, lower).compareTo(distance(best, upper, lower)) < 0) best = other;
        }
        return Float.floatToIntBits(best);
    }

    private static BigDecimal distance(float number, int upper, int lower) {
        return new BigDecimal(number).multiply(BigDecimal.valueOf(lower)).subtract(BigDecimal.valueOf(upper)).abs();
    }

    private static void sets() {
        D.by("Sets are told as bits (bit k for number k).");
        for (int c = 0; c <= 8; c++) {
            // all need nothing but one, which would have 1
            SpanWidths x = Due.of("t6" + ";p0100".repeat(c) + ";p5101" + ";p0100".repeat(8 - c));
            D.due("only CELL " + c + " is CRAMPED", x.whole(0, 2), 1 << c);
            D.due("only CELL " + c + " is over COLUMN 5", x.ofColumn(5, 3), 1 << c);
            D.due("all others are over COLUMN 0", x.ofColumn(0, 3), 511 - (1 << c));
            D.due("its COLUMNS", x.ofCell(c, 1), 32);
        }
    }

    private static void means() {
        D.by("MEAN for n units (0 .. 99), as a DOUBLE. LOST: OUTSIDE; STATE: there is no TABLE.");
        SpanWidths one = Due.of("t1;p0100");
        D.due("0 by 1", one.mean(0), 0L);
        D.due("1 by 1", one.mean(1), 0x3ff0000000000000L);
        D.due("99 by 1", one.mean(99), 0x4058c00000000000L);
        SpanWidths three = Due.of("t3;p0100");
        D.due("1 by 3, down", three.mean(1), 0x3fd5555555555555L);
        D.due("2 by 3, down", three.mean(2), 0x3fe5555555555555L);
        D.due("3 by 3", three.mean(3), 0x3ff0000000000000L);
        SpanWidths five = Due.of("t5;p0100");
        D.due("1 by 5, up", five.mean(1), 0x3fc999999999999aL);
        SpanWidths six = Due.of(SIX_DOUBLES);
        D.due("108 by 6, more than n", six.mean(0), 0x4032000000000000L);
        for (int n : Due.not(0, 99)) {
            D.due("mean(" + n + ")", six.mean(n), LOST);
            D.due("of no TABLE, mean(" + n + ")", new SpanWidths().mean(n), LOST);
        }
        D.due("of no TABLE, mean(0)", new SpanWidths().mean(0), LOST);
        D.due("of no TABLE, mean(99)", new SpanWidths().mean(99), LOST);
    }
}
