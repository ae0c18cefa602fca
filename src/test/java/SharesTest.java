/** Promises 11 to 13: firstFit, share, mean. */
public final class SharesTest {
    private static final Due D = new Due("SharesTest");
    private static final int MIN = Integer.MIN_VALUE, MAX = Integer.MAX_VALUE;
    /** MUST 3 2 2, WOULD 5 4 4. */
    private static final String THREE = "t3;p0124;f1113;d2112;p0259;f0368";

    public static void main(String[] args) {
        firstFits();
        shares();
        everyShare();
        means();
        D.end();
    }

    private static void firstFits() {
        SpanWidths x = Due.of(THREE);
        // 4 2 2 by 8; 5 4 3 by 12; 5 4 4 by 13
        int[] want = {8, 12, 13, 12, 9};
        for (int c = 0; c < want.length; c++) D.due("firstFit(" + c + ")", x.firstFit(c), want[c]);
        for (int c : new int[] {-1, 5, MIN, MAX}) D.due("firstFit(" + c + ")", x.firstFit(c), -1);
        D.due("no table", new SpanWidths().firstFit(0), -1);
        D.due("fits at once", Due.of("t1;p0155").firstFit(0), 0);
        SpanWidths y = Due.of("t2;p0109;p1109");
        y.promise(0, 9);
        // column 1 has a tenth and what a cut leaves: 99 less 89 are 10
        D.due("first of one that little is left to", y.firstFit(1), 81);
        SpanWidths z = Due.of("t2;p0109;d1109");
        z.promise(0, 9);
        D.due("fits in none", z.firstFit(1), -9);
        SpanWidths six = Due.of("t6;d0109;d1109;d2109;d3109;d4109;d5109");
        D.due("the very last of 99", Due.of("t6;d0109;d1109;d2109;d3109;d4109;p5109").firstFit(5), 99);
        D.due("99 are too few for 108: the third has 17 of 18", six.firstFit(2), -9);
    }

    private static void shares() {
        SpanWidths x = Due.of(THREE);
        D.due("3 by 7", x.share(0, 0), Float.floatToIntBits(3f / 7f));
        D.due("4 by 8", x.share(0, 8), Float.floatToIntBits(0.5f));
        D.due("1 by 1", Due.of("t1;p0111").share(0, 0), 0x3f800000);
        D.due("0 by 0", Due.of("t1;p0100").share(0, 0), 0);
        D.due("0 by 1", Due.of("t2;p0111").share(1, 0), 0);
        D.due("1 by 10", Due.of("t2;p0119;p1199").share(0, 10), Float.floatToIntBits(0.1f));
        D.due("1 by 3, to the nearest", Due.of("t3;p0111").share(1, 3), 0x3eaaaaab);
        for (int q : new int[] {-1, 3, MIN, MAX}) {
            D.due("share(" + q + ", 0)", x.share(q, 0), -1);
            D.due("share(" + q + ", 100)", x.share(q, 100), -1);
        }
        for (int n : new int[] {-1, 100, MIN, MAX}) D.due("share(0, " + n + ")", x.share(0, n), -2);
    }

    /** All shares and means that two columns, one of them promised p tenths, can have. */
    private static void everyShare() {
        for (int p = 0; p <= 9; p++) {
            SpanWidths x = Due.of("t2;p0100;p1137");
            x.promise(0, p);
            for (int n = 0; n <= 99; n++) {
                int a = x.width(0, n), b = x.width(1, n);
                D.due("share(0, " + n + ") by " + p, x.share(0, n), Float.floatToIntBits((float) a / (float) (a + b)));
                D.due("share(1, " + n + ") by " + p, x.share(1, n), Float.floatToIntBits((float) b / (float) (a + b)));
            }
        }
    }

    private static void means() {
        for (int columns = 1; columns <= 6; columns++) {
            SpanWidths x = Due.of("t" + columns + ";p0100");
            for (int n = 0; n <= 99; n++) {
                D.due(columns + " mean(" + n + ")", x.mean(n), Double.doubleToLongBits((double) n / columns));
            }
        }
        SpanWidths six = Due.of("t6;d0199;d1199;d2199;d3199;d4199;d5199");
        D.due("of all WIDTHS, not of n", six.mean(1), Double.doubleToLongBits(18.0));
        for (int n : new int[] {-1, 100, MIN, MAX}) D.due("mean(" + n + ")", six.mean(n), SpanWidths.LOST);
        D.due("no table", new SpanWidths().mean(0), SpanWidths.LOST);
        D.due("no table, no n", new SpanWidths().mean(100), SpanWidths.LOST);
    }
}
