import java.util.ArrayList;
import java.util.List;

/**
 * All that can be asked of an object, in words, so that two objects can be seen to be alike. Asking takes READINGS
 * back and tells fault() anew: an object is done with when its picture has been taken.
 */
final class Picture {
    private static final int[] UNITS = {0, 8, 99};

    private Picture() {
    }

    static List<String> of(SpanWidths x) {
        List<String> all = new ArrayList<>();
        all.add("trace " + x.trace());
        for (int what = 0; what <= 5; what++) all.add("many " + what + " " + x.many(what));
        table(x, all);
        readings(x, all);
        for (int k = 0; k < 4; k++) sheet(x, k, all);
        return all;
    }

    private static void table(SpanWidths x, List<String> all) {
        for (int c = 0; c < x.many(1); c++) {
            for (int what = 0; what <= 3; what++) all.add("cell " + c + " " + what + " " + x.ofCell(c, what));
        }
        for (int q = 0; q < x.many(0); q++) {
            for (int what = 0; what <= 2; what++) all.add("column " + q + " " + what + " " + x.ofColumn(q, what));
            for (int n : UNITS) all.add("width " + q + " " + n + " " + x.width(q, n));
        }
    }

    /** A READING is told by what can be with it and can't without it, or the other way. */
    private static void readings(SpanWidths x, List<String> all) {
        for (int left = x.many(4); left >= 0; left--) {
            all.add("manners by " + left + " " + x.manners());
            all.add("kinds by " + left + " " + x.kinds(0));
            all.add("lows by " + left + " " + x.lows(0));
            if (left > 0) x.back(1);
        }
    }

    private static void sheet(SpanWidths x, int k, List<String> all) {
        for (int lane = 0; lane < 3; lane++) {
            long first = x.cell(k, 0, lane);
            int fault = x.fault();
            all.add("sheet " + k + " as " + lane + " " + first + " " + fault);
            for (int i = 1; fault == 0; i++) {
                all.add("sheet " + k + " " + i + " " + x.cell(k, i, lane));
                fault = x.fault();
            }
        }
    }
}
