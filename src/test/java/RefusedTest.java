import java.util.List;
import java.util.function.Supplier;
import java.util.function.ToLongFunction;

/**
 * "they change nothing (but fault(), of a call that names FAULTS)", "and changes nothing; fault() tells it": each
 * call that is refused, comes to a FAULT, or only asks, with all that can be asked of the object afterwards.
 */
public final class RefusedTest {
    private static final Due D = new Due("RefusedTest");
    private static final int MIN = Due.MIN, MAX = Due.MAX;
    private static final long LOST = SpanWidths.LOST;
    /** Calls that name no FAULT leave fault() as it was: at 4, by build(). */
    private static final int STAYS = 4;

    public static void main(String[] args) {
        D.by("they change nothing (but fault(), of a call that names FAULTS)");
        table();
        tableWithText();
        parts();
        widths();
        day();
        readings();
        sheets();
        copies();
        withoutTable();
        onlyAsked();
        picturesTellApart();
        D.end();
    }

    /**
     * SHEET 0 has a row of 0 bytes, 1 four shorts (an act, then a pair that is none), 2 nothing, 3 a text in bytes.
     * There are 2 COLUMNS and 3 CELLS, eight READINGS, the first seven of which are so.
     */
    private static SpanWidths build() {
        SpanWidths x = Due.of("t2;p0137;f1124;d0235");
        x.promise(1, 3);
        x.manner(1);
        for (int k = 0; k < 7; k++) x.reading(k, 0, x.width(0, k));
        x.reading(99, 1, 0);
        x.tell(2);
        x.print(1);
        return withSheets(x);
    }

    private static SpanWidths withoutAny() {
        return withSheets(new SpanWidths());
    }

    private static SpanWidths withSheets(SpanWidths x) {
        x.sheet(0, Due.BYTES, 0);
        Due.write(x, 1, Due.SHORTS, 5, 0, 7, 9);
        Due.writeText(x, 3, Due.BYTES, "t1;p0100;");
        x.sheet(3, Due.BYTES, -1);
        return x;
    }

    /** The call answers as due, and an object that it was asked of is like one that it was not asked of. */
    private static void same(Supplier<SpanWidths> made, String call, ToLongFunction<SpanWidths> ask, long want, int fault) {
        SpanWidths asked = made.get();
        D.due(asked, call, ask.applyAsLong(asked), want, fault);
        List<String> is = Picture.of(asked), due = Picture.of(made.get());
        D.due(call + ", all as it was", is.equals(due) ? 1 : 0, 1);
        if (is.equals(due)) return;
        for (int k = 0; k < Math.min(is.size(), due.size()); k++) {
            if (!is.get(k).equals(due.get(k))) System.out.println("  " + is.get(k) + ", was " + due.get(k));
        }
    }

    private static void same(String call, ToLongFunction<SpanWidths> ask, long want, int fault) {
        same(RefusedTest::build, call, ask, want, fault);
    }

    private static void none(String call, ToLongFunction<SpanWidths> ask, long want, int fault) {
        same(RefusedTest::withoutAny, "of no TABLE, " + call, ask, want, fault);
    }

    private static void table() {
        for (int k : Due.not(0, 3)) same("table UNKNOWN", x -> x.table(k, 0, 0, 8), -1, 0);
        for (int lane : Due.not(0, 2)) same("table OUTSIDE", x -> x.table(3, lane, 0, 8), -2, 0);
        same("table CAST", x -> x.table(3, 1, 0, 8), -12, 2);
        same("table NULL", x -> x.table(2, 0, 0, 8), -11, 1);
        same("table SIZE", x -> x.table(3, 0, 0, -1), -14, 4);
        same("table SIZE", x -> x.table(3, 0, 0, MIN), -14, 4);
        same("table INDEX", x -> x.table(3, 0, 0, 10), -13, 3);
        same("table INDEX", x -> x.table(3, 0, 2, 8), -13, 3);
        same("table INDEX", x -> x.table(3, 0, -1, 8), -13, 3);
        same("table INDEX", x -> x.table(3, 0, 10, 0), -13, 3);
        same("table INDEX", x -> x.table(0, 0, 0, 1), -13, 3);
    }

    /** A TEXT that isn't taken, whatever of it was read before its FIRST FAULT. */
    private static void tableWithText() {
        D.by("A TEXT that is taken makes all anew");
        for (int n = 0; n <= 9; n++) {
            int wrong = n;
            if (n != 8) same("table of " + n, x -> x.table(3, 0, 0, wrong), -100 - n, 0);
        }
        same("table of none", x -> x.table(0, 0, 0, 0), -100, 0);
        same("table from 1 on", x -> x.table(3, 0, 1, 8), -100, 0);
        String[] texts = {"t6;p0100;d3", "t6;p5199;f4299;d3399;p0154", "t7;p0100", "t1;p0100;p1100", "t6" + ";d3399".repeat(9) + ";"};
        int[] faults = {-111, -125, -101, -110, -156};
        for (int k = 0; k < texts.length; k++) {
            String text = texts[k];
            Supplier<SpanWidths> made = () -> {
                SpanWidths x = build();
                Due.writeText(x, 2, Due.INTS, text);
                return x;
            };
            same(made, "table of " + text, x -> x.table(2, Due.INTS, 0, text.length()), faults[k], 0);
        }
        D.by("they change nothing (but fault(), of a call that names FAULTS)");
    }

    private static void parts() {
        for (int c : Due.not(0, 2)) {
            same("ofCell UNKNOWN", x -> x.ofCell(c, 0), -1, STAYS);
            same("content UNKNOWN", x -> x.content(c, 0, 0), -1, STAYS);
            same("firstFit UNKNOWN", x -> x.firstFit(c), -1, STAYS);
            same("kinds UNKNOWN", x -> x.kinds(c), -1, STAYS);
            same("lows UNKNOWN", x -> x.lows(c), -1, STAYS);
            same("tell UNKNOWN", x -> x.tell(c), -1, STAYS);
            same("print UNKNOWN", x -> x.print(c), -1, STAYS);
            same("as UNKNOWN", x -> x.as(c, 0), -1, 0);
        }
        for (int q : Due.not(0, 1)) {
            same("ofColumn UNKNOWN", x -> x.ofColumn(q, 0), -1, STAYS);
            same("promise UNKNOWN", x -> x.promise(q, 0), -1, STAYS);
        }
        for (int what : Due.not(0, 5)) same("ofCell OUTSIDE", x -> x.ofCell(0, what), -2, STAYS);
        for (int what : Due.not(0, 3)) same("ofColumn OUTSIDE", x -> x.ofColumn(0, what), -2, STAYS);
        for (int v : Due.not(0, 9)) {
            same("content OUTSIDE: v", x -> x.content(0, v, 9), -2, STAYS);
            same("content OUTSIDE: w", x -> x.content(0, 0, v), -2, STAYS);
        }
        same("content OUTSIDE: v above w", x -> x.content(0, 1, 0), -2, STAYS);
        for (int p : Due.not(0, 9)) same("promise OUTSIDE", x -> x.promise(0, p), -2, STAYS);
        for (int m : Due.not(0, 2)) same("manner OUTSIDE", x -> x.manner(m), -2, STAYS);
        for (int kind : Due.not(0, 2)) same("as OUTSIDE", x -> x.as(0, kind), -2, 0);
        same("as CAST", x -> x.as(0, 2), -12, 2);
        same("as CAST", x -> x.as(1, 2), -12, 2);
        for (int what : Due.not(0, 5)) same("many OUTSIDE", x -> x.many(what), -2, STAYS);
    }

    private static void widths() {
        for (int q : Due.not(0, 1)) {
            same("width UNKNOWN", x -> x.width(q, 0), -1, STAYS);
            same("share UNKNOWN", x -> x.share(q, 0), -1, STAYS);
            same("odds UNKNOWN", x -> x.odds(q, 0, 0), LOST, STAYS);
        }
        for (int n : Due.not(0, 99)) {
            same("width OUTSIDE", x -> x.width(0, n), -2, STAYS);
            same("whole OUTSIDE", x -> x.whole(n, 0), -2, STAYS);
            same("share OUTSIDE", x -> x.share(0, n), -2, STAYS);
            same("mean OUTSIDE", x -> x.mean(n), LOST, STAYS);
            same("odds OUTSIDE", x -> x.odds(0, n, 0), LOST, STAYS);
        }
        for (int what : Due.not(0, 4)) same("whole OUTSIDE", x -> x.whole(0, what), -2, STAYS);
        for (int which : Due.not(0, 1)) same("odds OUTSIDE", x -> x.odds(0, 0, which), LOST, STAYS);
    }

    private static void day() {
        for (int k : Due.not(0, 3)) same("day UNKNOWN", x -> x.day(k, 1, 0, 1, 9, 0), -1, 0);
        for (int lane : Due.not(0, 2)) same("day OUTSIDE: lane", x -> x.day(1, lane, 0, 1, 9, 0), -2, 0);
        for (int k : Due.not(0, 20)) same("day OUTSIDE: k", x -> x.day(1, 1, 0, k, 9, 0), -2, 0);
        for (int n : Due.not(0, 99)) same("day OUTSIDE: n", x -> x.day(1, 1, 0, 1, n, 0), -2, 0);
        for (int what : new int[] {-1, 5, 9, 16, MIN, MAX}) same("day OUTSIDE: what", x -> x.day(1, 1, 0, 1, 9, what), -2, 0);
        same("day CAST", x -> x.day(1, 0, 0, 1, 9, 0), -12, 2);
        same("day NULL", x -> x.day(2, 0, 0, 1, 9, 0), -11, 1);
        same("day INDEX", x -> x.day(1, 1, 0, 3, 9, 0), -13, 3);
        same("day INDEX", x -> x.day(1, 1, 3, 1, 9, 0), -13, 3);
        same("day INDEX", x -> x.day(1, 1, 5, 0, 9, 0), -13, 3);
        same("day OUTSIDE: the second pair", x -> x.day(1, 1, 0, 2, 9, 0), -2, 0);
        D.by("from how all is now (nothing is changed)");
        same("a day told", x -> x.day(1, 1, 0, 1, 9, 2), 10, 0);
        same("a day told, again", x -> x.day(1, 1, 0, 1, 9, 2) + x.day(1, 1, 0, 1, 9, 2), 20, 0);
        for (int[] act : new int[][] {{0, 0}, {9, 20}, {0, 21}, {2, 30}, {9, 2}}) {
            Supplier<SpanWidths> made = () -> {
                SpanWidths x = build();
                // the last act can't be, so that the ones ahead of it are begun for nothing
                Due.write(x, 0, Due.INTS, act[0], act[1], 0, 3);
                return x;
            };
            same(made, "a day of " + act[0] + ", " + act[1], x -> x.day(0, 2, 0, 1, 9, 1), -9, 0);
            same(made, "a day with a FIRST WRONG", x -> x.day(0, 2, 0, 2, 9, 0), -101, 0);
        }
        D.by("they change nothing (but fault(), of a call that names FAULTS)");
    }

    private static void readings() {
        for (int q : Due.not(0, 1)) same("reading UNKNOWN", x -> x.reading(0, q, 0), -1, STAYS);
        for (int n : Due.not(0, 99)) same("reading OUTSIDE: n", x -> x.reading(n, 0, 0), -2, STAYS);
        for (int v : Due.not(0, 120)) same("reading OUTSIDE: v", x -> x.reading(0, 0, v), -2, STAYS);
        same("reading FULL", x -> x.reading(0, 0, 0), -4, STAYS);
        for (int k : Due.not(0, 8)) same("back OUTSIDE", x -> x.back(k), -2, STAYS);
        same("back(0)", x -> x.back(0), 8, STAYS);
    }

    private static void sheets() {
        for (int k : Due.not(0, 3)) {
            same("sheet UNKNOWN", x -> x.sheet(k, 0, 0), -1, 0);
            same("lose UNKNOWN", x -> x.lose(k), -1, STAYS);
            same("put UNKNOWN", x -> x.put(k, 0, 0), -1, 0);
            same("cell UNKNOWN", x -> x.cell(k, 0, 0), LOST, 0);
        }
        for (int lane : Due.not(0, 2)) {
            same("sheet OUTSIDE: lane", x -> x.sheet(1, lane, 0), -2, 0);
            same("cell OUTSIDE: lane", x -> x.cell(1, 0, lane), LOST, 0);
        }
        for (int k = 0; k < 4; k++) {
            int of = k;
            for (int n : new int[] {61, MAX}) same("sheet OUTSIDE: n", x -> x.sheet(of, 2, n), -2, 0);
            for (int n : new int[] {-1, MIN}) same("sheet SIZE", x -> x.sheet(of, 2, n), -14, 4);
        }
        same("lose of nothing", x -> x.lose(2), 0, STAYS);
        same("put NULL", x -> x.put(2, 0, 9), -11, 1);
        same("put INDEX of none", x -> x.put(0, 0, 9), -13, 3);
        for (int i : Due.not(0, 3)) {
            same("put INDEX", x -> x.put(1, i, 9), -13, 3);
            same("cell INDEX", x -> x.cell(1, i, 1), LOST, 3);
        }
        same("cell NULL", x -> x.cell(2, 0, 0), LOST, 1);
        same("cell CAST", x -> x.cell(1, 0, 0), LOST, 2);
    }

    private static void copies() {
        for (int k : Due.not(0, 3)) {
            same("copy UNKNOWN", x -> x.copy(k, 0, 1, 0, 1), -1, 0);
            same("copy UNKNOWN", x -> x.copy(1, 0, k, 0, 1), -1, 0);
        }
        same("copy NULL", x -> x.copy(2, 0, 1, 0, 1), -11, 1);
        same("copy NULL", x -> x.copy(1, 0, 2, 0, 1), -11, 1);
        same("copy CAST", x -> x.copy(1, 0, 3, 0, 1), -12, 2);
        for (int k : Due.not(0, 4)) {
            same("copy INDEX: i", x -> x.copy(1, k, 1, 0, 0), -13, 3);
            same("copy INDEX: j", x -> x.copy(1, 0, 1, k, 0), -13, 3);
            same("copy INDEX: n", x -> x.copy(1, 0, 1, 0, k), -13, 3);
        }
        // some of the cells could go, yet none does
        same("copy INDEX: from 1 on", x -> x.copy(1, 1, 1, 0, 4), -13, 3);
        same("copy INDEX: to 1 on", x -> x.copy(1, 0, 1, 1, 4), -13, 3);
        same("copy INDEX: to none", x -> x.copy(3, 0, 0, 0, 1), -13, 3);
        same("copy none", x -> x.copy(1, 4, 1, 0, 0), 0, 0);
    }

    private static void withoutTable() {
        none("ofCell", x -> x.ofCell(0, 0), -1, STAYS);
        none("ofColumn", x -> x.ofColumn(0, 0), -1, STAYS);
        none("content", x -> x.content(0, 9, 9), -1, STAYS);
        none("promise", x -> x.promise(0, 9), -1, STAYS);
        none("manner", x -> x.manner(2), -3, STAYS);
        none("width", x -> x.width(0, 99), -1, STAYS);
        none("whole", x -> x.whole(99, 0), -3, STAYS);
        none("day", x -> x.day(1, 1, 0, 1, 9, 0), -3, 0);
        none("day CAST", x -> x.day(1, 0, 0, 1, 9, 0), -12, 2);
        none("firstFit", x -> x.firstFit(0), -1, STAYS);
        none("share", x -> x.share(0, 99), -1, STAYS);
        none("mean", x -> x.mean(99), LOST, STAYS);
        none("reading", x -> x.reading(0, 0, 0), -1, STAYS);
        none("back", x -> x.back(1), -2, STAYS);
        none("kinds", x -> x.kinds(0), -1, STAYS);
        none("lows", x -> x.lows(0), -1, STAYS);
        none("manners", x -> x.manners(), -3, STAYS);
        none("odds", x -> x.odds(0, 0, 0), LOST, STAYS);
        none("tell", x -> x.tell(0), -1, STAYS);
        none("print", x -> x.print(0), -1, STAYS);
        none("as", x -> x.as(0, 0), -1, 0);
        none("table of a TEXT that isn't taken", x -> x.table(3, 0, 0, 9), -109, 0);
    }

    private static void onlyAsked() {
        D.by("Nothing is promised beyond the answers and state changes described above");
        same("ofCell", x -> x.ofCell(2, 5), 10, STAYS);
        same("ofColumn", x -> x.ofColumn(1, 3), 6, STAYS);
        same("width", x -> x.width(0, 0), 3, STAYS);
        same("whole", x -> x.whole(99, 0), 99, STAYS);
        same("firstFit", x -> x.firstFit(2), 10, STAYS);
        same("share", x -> x.share(0, 99) == 0 ? 0 : 1, 1, STAYS);
        same("mean", x -> x.mean(2), 0x4008000000000000L, STAYS);
        same("kinds", x -> x.kinds(1), 0, STAYS);
        same("lows", x -> x.lows(2), 0, STAYS);
        same("manners", x -> x.manners(), 0, STAYS);
        same("odds", x -> x.odds(0, 0, 1), 1, STAYS);
        same("cell", x -> x.cell(1, 2, 1), 7, 0);
        same("as", x -> x.as(2, 1), 1, 0);
        same("trace", x -> x.trace() == 0 ? 0 : 1, 1, STAYS);
        same("fault", x -> x.fault(), STAYS, STAYS);
        same("many", x -> x.many(1), 3, STAYS);
    }

    /** Pictures would be of no use if they were all alike: each change must be seen. */
    private static void picturesTellApart() {
        List<String> due = Picture.of(build());
        List<ToLongFunction<SpanWidths>> changes = List.of(x -> x.table(3, 0, 0, 8), x -> x.content(0, 3, 6), x -> x.content(1, 1, 4),
            x -> x.promise(0, 1), x -> x.manner(0), x -> x.back(1), x -> x.back(8), x -> x.sheet(0, 0, 1), x -> x.sheet(0, 1, 0),
            x -> x.sheet(2, 0, 0), x -> x.lose(0), x -> x.lose(1), x -> x.put(1, 3, 0), x -> x.put(3, 8, 0), x -> x.copy(1, 0, 1, 1, 1),
            x -> x.tell(0), x -> x.print(0), x -> x.back(1) + x.reading(99, 1, x.width(1, 99)));
        for (int k = 0; k < changes.size(); k++) {
            SpanWidths x = build();
            changes.get(k).applyAsLong(x);
            D.due("change " + k + " is seen", Picture.of(x).equals(due) ? 0 : 1, 1);
        }
    }
}
