/** Counts answers that are not as due, and has the few steps that most tests begin with. */
final class Due {
    static final int BYTES = 0, SHORTS = 1, INTS = 2;
    static final int MIN = Integer.MIN_VALUE, MAX = Integer.MAX_VALUE;
    private final String test;
    private String sentence = "";
    private int asked = 0;
    private int wrong = 0;

    Due(String test) {
        this.test = test;
    }

    /** The words of the document by which the answers from here on are due. */
    void by(String words) {
        sentence = " by \"" + words + "\"";
    }

    void due(String call, long got, long want) {
        asked++;
        if (got == want) return;
        wrong++;
        System.out.println(test + ": " + call + " answered " + got + ", due is " + want + sentence);
    }

    /** An answer, and what fault() tells after it. */
    void due(SpanWidths x, String call, long got, long want, int fault) {
        due(call, got, want);
        due(call + ", fault()", x.fault(), fault);
    }

    void dueRow(String call, int[] got, int... want) {
        due(call + " how many", got.length, want.length);
        for (int k = 0; k < Math.min(got.length, want.length); k++) due(call + " [" + k + "]", got[k], want[k]);
    }

    void end() {
        System.out.println(test + ": " + asked + " answers, " + wrong + " not as due");
        if (wrong != 0 || asked == 0) System.exit(1);
    }

    /** Numbers that are not least .. most: the nearest on both sides, and the farthest. */
    static int[] not(int least, int most) {
        return new int[] {least - 1, most + 1, MIN, MAX};
    }

    /** Gives a sheet a row of ints. */
    static void write(SpanWidths x, int sheet, int lane, int... numbers) {
        x.sheet(sheet, lane, numbers.length);
        for (int k = 0; k < numbers.length; k++) x.put(sheet, k, numbers[k]);
    }

    static void writeText(SpanWidths x, int sheet, int lane, String text) {
        write(x, sheet, lane, text.chars().toArray());
    }

    /** What table() answers to a text, by way of SHEET 3. */
    static int tell(SpanWidths x, String text) {
        writeText(x, 3, BYTES, text);
        return x.table(3, BYTES, 0, text.length());
    }

    static SpanWidths of(String text) {
        SpanWidths x = new SpanWidths();
        if (tell(x, text) <= 0) throw new IllegalStateException("no text: " + text);
        return x;
    }

    static int[] musts(SpanWidths x) {
        return columns(x, 0);
    }

    static int[] woulds(SpanWidths x) {
        return columns(x, 1);
    }

    private static int[] columns(SpanWidths x, int what) {
        int[] row = new int[x.many(0)];
        for (int q = 0; q < row.length; q++) row[q] = x.ofColumn(q, what);
        return row;
    }

    static int[] widths(SpanWidths x, int n) {
        int[] row = new int[x.many(0)];
        for (int q = 0; q < row.length; q++) row[q] = x.width(q, n);
        return row;
    }
}
