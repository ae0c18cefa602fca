/** Promises 8 to 10: width, whole, day. */
public final class WidthsTest {
    private static final Due D = new Due("WidthsTest");
    private static final int MIN = Integer.MIN_VALUE, MAX = Integer.MAX_VALUE;
    /** MUST 3 2 2, WOULD 5 4 4. */
    private static final String THREE = "t3;p0124;f1113;d2112;p0259;f0368";

    public static void main(String[] args) {
        widthsByManners();
        widthsByPromises();
        widthRefusals();
        wholes();
        wholeRefusals();
        days();
        firstWrong();
        dayRefusalsAndFaults();
        dayPairs();
        D.end();
    }

    private static void widthsByManners() {
        SpanWidths x = Due.of(THREE);
        D.dueRow("0: 0", Due.widths(x, 0), 3, 2, 2);
        D.dueRow("0: 7", Due.widths(x, 7), 3, 2, 2);
        D.dueRow("0: 8", Due.widths(x, 8), 4, 2, 2);
        D.dueRow("0: 9", Due.widths(x, 9), 4, 3, 2);
        D.dueRow("0: 10", Due.widths(x, 10), 4, 3, 3);
        D.dueRow("0: 13", Due.widths(x, 13), 5, 4, 4);
        D.dueRow("0: 15", Due.widths(x, 15), 6, 5, 4);
        D.dueRow("0: 99", Due.widths(x, 99), 34, 33, 32);
        x.manner(1);
        D.dueRow("1: 8", Due.widths(x, 8), 3, 3, 2);
        D.dueRow("1: 10", Due.widths(x, 10), 4, 3, 3);
        D.dueRow("1: 15", Due.widths(x, 15), 5, 5, 5);
        D.dueRow("1: 16", Due.widths(x, 16), 6, 5, 5);
        x.manner(2);
        D.dueRow("2: 8", Due.widths(x, 8), 3, 3, 2);
        D.dueRow("2: 9", Due.widths(x, 9), 3, 3, 3);
        D.dueRow("2: 10", Due.widths(x, 10), 4, 3, 3);
        D.dueRow("2: 16", Due.widths(x, 16), 6, 5, 5);
        wantingOnesFirst();
    }

    /** What hasn't what it would goes ahead, though a manner alone would choose another. */
    private static void wantingOnesFirst() {
        SpanWidths x = Due.of("t2;p0100;p1189");
        x.manner(1);
        D.dueRow("1: 9, to the wider one that wants", Due.widths(x, 9), 0, 9);
        D.dueRow("1: 10, then to the least", Due.widths(x, 10), 1, 9);
        x.manner(2);
        D.dueRow("2: 9", Due.widths(x, 9), 0, 9);
        D.dueRow("2: 10, 0 by 1 ahead of 9 by 10", Due.widths(x, 10), 1, 9);
        D.dueRow("2: 11, 9 by 10 ahead of 1 by 1", Due.widths(x, 11), 1, 10);
        D.dueRow("2: 12, 1 by 1 is 10 by 10: the first", Due.widths(x, 12), 2, 10);
        SpanWidths none = Due.of("t6;p0100");
        for (int m = 0; m < 3; m++) {
            none.manner(m);
            D.dueRow("none wants: the first", Due.widths(none, 8), 2, 2, 1, 1, 1, 1);
        }
    }

    private static void widthsByPromises() {
        SpanWidths x = Due.of(THREE);
        x.promise(1, 5);
        D.dueRow("not while all is taken", Due.widths(x, 7), 3, 2, 2);
        D.dueRow("as long as there is some", Due.widths(x, 8), 3, 3, 2);
        D.dueRow("n 9: 4 at most, two are there", Due.widths(x, 9), 3, 4, 2);
        D.dueRow("n 11: 5, cut, then those that want", Due.widths(x, 11), 4, 5, 2);
        D.dueRow("n 40", Due.widths(x, 40), 11, 20, 9);
        x.promise(0, 9);
        D.dueRow("in their order", Due.widths(x, 40), 36, 2, 2);
        x.promise(0, 1);
        D.dueRow("less than it has", Due.widths(x, 20), 6, 10, 4);
        SpanWidths y = Due.of("t2;p0100;p1100");
        y.promise(0, 1);
        y.promise(1, 9);
        D.dueRow("all promised, one is cut off", Due.widths(y, 99), 10, 89);
        D.dueRow("nothing of 0", Due.widths(y, 0), 0, 0);
        D.dueRow("9 tenths of 1 are 0", Due.widths(y, 1), 1, 0);
    }

    private static void widthRefusals() {
        SpanWidths none = new SpanWidths();
        D.due("no table", none.width(0, 100), -1);
        SpanWidths x = Due.of(THREE);
        for (int q : new int[] {-1, 3, MIN, MAX}) {
            D.due("width(" + q + ", 0)", x.width(q, 0), -1);
            D.due("width(" + q + ", 100)", x.width(q, 100), -1);
        }
        for (int n : new int[] {-1, 100, MIN, MAX}) D.due("width(0, " + n + ")", x.width(0, n), -2);
    }

    private static void wholes() {
        SpanWidths x = Due.of(THREE);
        wholeIs(x, 0, 7, 1, 31, 0, 0);
        wholeIs(x, 6, 7, 1, 31, 0, 0);
        wholeIs(x, 7, 7, 0, 31, 0, 0);
        // 4 3 3: cell 0 has 4 of 4; 1, 2 have 3 of 4; 3 has 7 of 9; 4 has 10 of 9
        wholeIs(x, 10, 10, 0, 14, 0, 0);
        wholeIs(x, 13, 13, 0, 0, 0, 0);
        x.promise(2, 9);
        wholeIs(x, 20, 20, 0, 11, 0, 2);
        SpanWidths y = Due.of("t6;d0199;d1199;d2199;d3199;d4199;d5199");
        wholeIs(y, 99, 108, 1, 0, 0, 0);
        wholeIs(Due.of("t3" + ";p1209".repeat(9)), 8, 8, 0, 511, 0, 1);
        SpanWidths z = Due.of("t2;p1111");
        wholeIs(z, 1, 1, 0, 0, 0, 1);
        wholeIs(z, 2, 2, 0, 0, 0, 0);
    }

    private static void wholeIs(SpanWidths x, int n, int... want) {
        for (int what = 0; what < want.length; what++) {
            D.due("whole(" + n + ", " + what + ")", x.whole(n, what), want[what]);
        }
    }

    private static void wholeRefusals() {
        SpanWidths none = new SpanWidths();
        D.due("no table", none.whole(0, 0), -3);
        D.due("no table ahead of n, what", none.whole(100, 5), -3);
        SpanWidths x = Due.of(THREE);
        for (int n : new int[] {-1, 100, MIN, MAX}) D.due("whole(" + n + ", 0)", x.whole(n, 0), -2);
        for (int what : new int[] {-1, 5, MIN, MAX}) D.due("whole(0, " + what + ")", x.whole(0, what), -2);
    }

    private static void days() {
        SpanWidths x = Due.of(THREE);
        x.promise(0, 5);
        x.manner(1);
        Due.write(x, 1, Due.BYTES, 77, 1, 0, 9, 2, 4, 22, 0, 20, 0, 30);
        // cell 0: LOW 2 becomes 1, HIGH 1; MUST 3 2 2; cell 2: HIGH 9, MOST 18; WOULD 5 4 18
        dayIs(x, 1, 2, 10, 7, -9, 27, 14, 0, 5, 3, 2);
        // then column 2 is promised 4 of 10, column 0 none, by manner 0
        dayIs(x, 1, 3, 10, 7, -9, 27, 14, 0, 5, 2, 3);
        dayIs(x, 1, 5, 10, 7, -9, 27, 14, 2, 3, 2, 5);
        dayIs(x, 1, 0, 10, 7, -9, 13, 14, 0, 5, 3, 2);
        D.due("nothing is changed: low", x.ofCell(0, 2), 2);
        D.due("nothing is changed: high", x.ofCell(2, 3), 2);
        D.due("nothing is changed: promised", x.ofColumn(0, 2), 5);
        D.due("nothing is changed: manner", x.many(5), 1);
        D.due("nothing is changed: would", x.many(3), 13);
        Due.write(x, 1, Due.BYTES, 0, 0, 9, 0, 0, 3, 0, 4);
        // LOW went with HIGH, and does not come back with it
        D.due("day must", x.day(1, 0, 0, 2, 0, 0), 7);
        D.due("day must of all", x.day(1, 0, 0, 4, 0, 0), 4);
        D.due("day would of all", x.day(1, 0, 0, 4, 0, 2), 17);
    }

    /** want: what 0 .. 4, then WIDTHS. */
    private static void dayIs(SpanWidths x, int i, int k, int n, int... want) {
        for (int w = 0; w < want.length; w++) {
            int what = w < 5 ? w : w + 5;
            D.due("day of " + k + ", n " + n + ", what " + what, x.day(1, 0, i, k, n, what), want[w]);
        }
        for (int what = want.length + 5; what <= 15; what++) D.due("no column " + what, x.day(1, 0, i, k, n, what), -9);
        D.due("fault() of a day", x.fault(), 0);
    }

    private static void firstWrong() {
        SpanWidths x = Due.of(THREE);
        Due.write(x, 1, Due.INTS, 9, 4, 9, 22, 9, 5, 9, 23, 2, 30, 9, 8, 9, 25);
        for (int what : new int[] {0, 2, 3, 4, 10, 12, 13, 15}) {
            D.due("first wrong 2, what " + what, x.day(1, 2, 0, 7, 9, what), -102);
            D.due("first wrong 0, what " + what, x.day(1, 2, 6, 1, 9, what), -100);
            D.due("first wrong 1, what " + what, x.day(1, 2, 8, 3, 9, what), -101);
            D.due("last column, what " + what, x.day(1, 2, 12, 1, 9, what), -100);
        }
        D.due("which", x.day(1, 2, 0, 7, 9, 1), 2);
        D.due("none of two", x.day(1, 2, 0, 2, 9, 1), -9);
        D.due("none of none", x.day(1, 2, 14, 0, 9, 1), -9);
        Due.write(x, 1, Due.INTS, 9, 8, 9, 9);
        D.due("a pair that is none goes ahead of a wrong act", x.day(1, 2, 0, 2, 9, 1), -2);
        D.due("what is not taken isn't looked at", x.day(1, 2, 0, 1, 9, 1), 0);
        int[] twenty = new int[60];
        for (int k = 0; k < 20; k++) twenty[2 * k + 1] = k < 19 ? 30 : 8;
        Due.write(x, 1, Due.SHORTS, twenty);
        D.due("the twentieth", x.day(1, 1, 0, 20, 9, 1), 19);
        D.due("the twentieth", x.day(1, 1, 0, 20, 9, 0), -119);
    }

    private static void dayRefusalsAndFaults() {
        SpanWidths none = new SpanWidths();
        Due.write(none, 0, Due.SHORTS, 0, 9);
        Due.write(none, 1, Due.INTS, 0, 9);
        SpanWidths x = Due.of(THREE);
        Due.write(x, 0, Due.SHORTS, 0, 9);
        Due.write(x, 1, Due.INTS, 0, 9);
        for (SpanWidths y : new SpanWidths[] {none, x}) {
            for (int sheet : new int[] {-1, 4, MIN, MAX}) dayFails(y, sheet, 3, 0, 21, 100, 5, -1, 0);
            for (int lane : new int[] {-1, 3, MIN, MAX}) dayFails(y, 0, lane, 0, 1, 0, 0, -2, 0);
            for (int k : new int[] {-1, 21, MIN, MAX, 1 << 30}) dayFails(y, 0, 0, 0, k, 0, 0, -2, 0);
            for (int n : new int[] {-1, 100, MIN, MAX}) dayFails(y, 0, 0, 0, 1, n, 0, -2, 0);
            for (int what : new int[] {-1, 5, 9, 16, MIN, MAX}) dayFails(y, 2, 0, 0, 1, 0, what, -2, 0);
            dayFails(y, 0, 0, 5, 1, 0, 0, -12, 2);
            dayFails(y, 0, 2, 0, 1, 0, 0, -12, 2);
            dayFails(y, 2, 0, 5, 1, 0, 0, -11, 1);
            for (int i : new int[] {-1, 1, 2, 3, MIN, MAX}) dayFails(y, 0, 1, i, 1, 0, 0, -13, 3);
            for (int i : new int[] {-1, 3, MIN, MAX}) dayFails(y, 0, 1, i, 0, 0, 0, -13, 3);
            dayFails(y, 0, 1, 0, 2, 0, 0, -13, 3);
        }
        dayFails(none, 0, 1, 0, 1, 0, 0, -3, 0);
        dayFails(none, 0, 1, 2, 0, 0, 1, -3, 0);
        dayFails(x, 0, 1, 0, 1, 0, 0, -2, 0);
        D.due("of SHEET 3", x.day(3, 0, 0, 0, 0, 0), 7);
    }

    private static void dayFails(SpanWidths x, int sheet, int lane, int i, int k, int n, int what, int want, int fault) {
        String call = "day(" + sheet + ", " + lane + ", " + i + ", " + k + ", " + n + ", " + what + ")";
        x.sheet(0, 0, -1);
        D.due(call, x.day(sheet, lane, i, k, n, what), want);
        D.due(call + " fault()", x.fault(), fault);
    }

    private static void dayPairs() {
        SpanWidths x = Due.of("t6" + ";p0101".repeat(9));
        int[] acts = {MIN, -1, 0, 4, 8, 9, 19, 20, 25, 26, 29, 30, 31, MAX, 256, 65536 + 20};
        for (int act : acts) {
            boolean known = act >= 0 && act <= 8 || act >= 20 && act <= 25;
            for (int first : new int[] {MIN, -1, 0, 2, 3, 9, 10, MAX}) {
                boolean fine = known ? first >= 0 && first <= 9 : act == 30 && first >= 0 && first <= 2;
                Due.write(x, 1, Due.INTS, first, act);
                D.due("pair " + first + ", " + act, x.day(1, 2, 0, 1, 9, 1), fine ? -9 : -2);
            }
        }
    }
}
