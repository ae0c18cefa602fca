import java.util.ArrayDeque;
import java.util.Arrays;
import java.util.Deque;
import java.util.Random;

/** Runs of calls, drawn from fixed seeds, asked of SpanWidths and of Second: all promises, in states that no one thought of. */
public final class SecondOpinionTest {
    private static final int RUNS = 2500, CALLS = 512;
    private static final int[] ODD = {-1, Integer.MIN_VALUE, Integer.MAX_VALUE, 100, 60, 61, 10, 4, 3, 9};

    private final Random random;
    private final SpanWidths x = new SpanWidths();
    private final Second y = new Second();
    private final Deque<int[]> planned = new ArrayDeque<>();
    private final StringBuilder log = new StringBuilder();
    private static long asked = 0;
    private static final long[] taken = new long[30];

    private SecondOpinionTest(long seed) {
        random = new Random(seed);
    }

    public static void main(String[] args) {
        for (int run = 0; run < RUNS; run++) new SecondOpinionTest(run).run(run);
        System.out.println("SecondOpinionTest: " + asked + " answers, none of them in dispute");
        System.out.println("  calls taken (no refusal, no fault), by number: " + Arrays.toString(taken));
    }

    private void run(int run) {
        for (int k = 0; k < CALLS; k++) {
            if (planned.isEmpty() && (k == 0 || random.nextInt(60) == 0)) planTable();
            if (planned.isEmpty() && random.nextInt(12) == 0) planDay();
            int[] call = planned.isEmpty() ? draw() : planned.poll();
            long got = askX(call), want = askY(call);
            asked++;
            if (got >= 0) taken[call[0]]++;
            log.append(Arrays.toString(call)).append(" = ").append(got).append('\n');
            if (got != want) {
                System.out.println(log);
                System.out.println("SecondOpinionTest: run " + run + ", call " + k + " answered " + got + ", Second says " + want);
                System.exit(1);
            }
        }
    }

    private int below(int n) {
        return n <= 0 ? 0 : random.nextInt(n);
    }

    /** Mostly a number of 0 .. n - 1, now and then one beyond. */
    private int about(int n) {
        int die = random.nextInt(24);
        return die == 0 ? n : die == 1 ? ODD[random.nextInt(ODD.length)] : below(n);
    }

    private String text() {
        int columns = 1 + below(6);
        StringBuilder text = new StringBuilder("t").append(columns);
        int cells = 1 + below(9);
        for (int c = 0; c < cells; c++) {
            int first = below(columns), low = below(10);
            text.append(';').append("pfd".charAt(below(3))).append(first).append(1 + below(Math.min(3, columns - first)));
            text.append(low).append(low + below(10 - low));
        }
        if (below(8) == 0) text.setCharAt(below(text.length()), "tpfd;0123456789x".charAt(below(16)));
        if (below(16) == 0) text.setLength(below(text.length() + 1));
        if (below(16) == 0 && text.length() < 60) text.insert(below(text.length() + 1), "tpfd;0123456789x".charAt(below(16)));
        return text.toString();
    }

    private void planTable() {
        String text = text();
        int sheet = below(4), lane = below(3), ahead = below(60 - text.length() + 1);
        if (below(2) == 0) ahead = 0;
        planned.add(new int[] {19, sheet, lane, ahead + text.length()});
        for (int k = 0; k < text.length(); k++) planned.add(new int[] {21, sheet, ahead + k, text.charAt(k) + (below(40) == 0 ? 256 : 0)});
        planned.add(new int[] {1, sheet, lane, ahead, text.length()});
    }

    private void planDay() {
        int sheet = below(4), lane = below(3), k = below(6);
        planned.add(new int[] {19, sheet, lane, 2 * k});
        for (int pair = 0; pair < k; pair++) {
            int kind = below(3);
            int act = kind == 0 ? about(y.cellsNow()) : kind == 1 ? 20 + about(y.columnsNow()) : 30;
            planned.add(new int[] {21, sheet, 2 * pair, about(kind == 2 ? 3 : 10)});
            planned.add(new int[] {21, sheet, 2 * pair + 1, act});
        }
        int n = below(100);
        for (int what = 0; what < 16; what++) if (below(2) == 0) planned.add(new int[] {9, sheet, lane, 0, k, n, what});
    }

    private int[] draw() {
        int call = 1 + below(29), c = about(y.cellsNow()), q = about(y.columnsNow()), n = about(100), k = about(4);
        int lane = below(6) == 0 || k < 0 || k > 3 ? about(3) : y.laneNow(k);
        int length = k < 0 || k > 3 ? 0 : y.lengthNow(k);
        switch (call) {
            case 1: return new int[] {call, k, lane, about(length), about(length + 1)};
            case 2: return new int[] {call, c, about(6)};
            case 3: return new int[] {call, q, about(4)};
            case 4: return new int[] {call, c, about(6), about(10)};
            case 5: return new int[] {call, q, about(10)};
            case 6: return new int[] {call, about(3)};
            case 7: return new int[] {call, q, n};
            case 8: return new int[] {call, n, about(5)};
            case 9: return new int[] {call, k, lane, about(length), about(4), n, about(16)};
            case 10: return new int[] {call, c};
            case 11: return new int[] {call, q, n};
            case 12: return new int[] {call, n};
            case 13: return drawReading();
            case 14: return new int[] {call, below(3) == 0 ? about(9) : below(2)};
            case 15: case 16: return new int[] {call, c};
            case 17: return new int[] {call};
            case 18: return new int[] {call, q, below(2) == 0 ? about(20) : about(100), about(2)};
            case 19: return new int[] {call, k, about(3), below(20) == 0 ? -below(9) : about(61)};
            case 20: return new int[] {call, k};
            case 21: return new int[] {call, k, about(length), random.nextInt() >> below(32)};
            case 22: return new int[] {call, k, about(length), lane};
            case 23: return new int[] {call, k, about(length), about(4), about(length), about(length / 2 + 1)};
            case 24: case 25: return new int[] {call, c};
            case 26: return new int[] {call, c, about(3)};
            case 27: case 28: return new int[] {call};
            default: return new int[] {call, about(6)};
        }
    }

    /** A reading that some LOW or some manner makes so, as most drawn at large would leave nothing. */
    private int[] drawReading() {
        int n = below(100), q = below(y.columnsNow());
        if (y.columnsNow() == 0 || below(10) == 0) return new int[] {13, about(100), about(y.columnsNow()), about(121)};
        return new int[] {13, n, q, y.widthOtherwise(q, n, below(y.cellsNow()), below(10), below(3))};
    }

    private long askX(int[] a) {
        switch (a[0]) {
            case 1: return x.table(a[1], a[2], a[3], a[4]);
            case 2: return x.ofCell(a[1], a[2]);
            case 3: return x.ofColumn(a[1], a[2]);
            case 4: return x.content(a[1], a[2], a[3]);
            case 5: return x.promise(a[1], a[2]);
            case 6: return x.manner(a[1]);
            case 7: return x.width(a[1], a[2]);
            case 8: return x.whole(a[1], a[2]);
            case 9: return x.day(a[1], a[2], a[3], a[4], a[5], a[6]);
            case 10: return x.firstFit(a[1]);
            case 11: return x.share(a[1], a[2]);
            case 12: return x.mean(a[1]);
            case 13: return x.reading(a[1], a[2], a[3]);
            case 14: return x.back(a[1]);
            case 15: return x.kinds(a[1]);
            case 16: return x.lows(a[1]);
            case 17: return x.manners();
            case 18: return x.odds(a[1], a[2], a[3]);
            case 19: return x.sheet(a[1], a[2], a[3]);
            case 20: return x.lose(a[1]);
            case 21: return x.put(a[1], a[2], a[3]);
            case 22: return x.cell(a[1], a[2], a[3]);
            case 23: return x.copy(a[1], a[2], a[3], a[4], a[5]);
            case 24: return x.tell(a[1]);
            case 25: return x.print(a[1]);
            case 26: return x.as(a[1], a[2]);
            case 27: return x.trace();
            case 28: return x.fault();
            default: return x.many(a[1]);
        }
    }

    private long askY(int[] a) {
        switch (a[0]) {
            case 1: return y.table(a[1], a[2], a[3], a[4]);
            case 2: return y.ofCell(a[1], a[2]);
            case 3: return y.ofColumn(a[1], a[2]);
            case 4: return y.content(a[1], a[2], a[3]);
            case 5: return y.promise(a[1], a[2]);
            case 6: return y.manner(a[1]);
            case 7: return y.width(a[1], a[2]);
            case 8: return y.whole(a[1], a[2]);
            case 9: return y.day(a[1], a[2], a[3], a[4], a[5], a[6]);
            case 10: return y.firstFit(a[1]);
            case 11: return y.share(a[1], a[2]);
            case 12: return y.mean(a[1]);
            case 13: return y.reading(a[1], a[2], a[3]);
            case 14: return y.back(a[1]);
            case 15: return y.kinds(a[1]);
            case 16: return y.lows(a[1]);
            case 17: return y.manners();
            case 18: return y.odds(a[1], a[2], a[3]);
            case 19: return y.sheet(a[1], a[2], a[3]);
            case 20: return y.lose(a[1]);
            case 21: return y.put(a[1], a[2], a[3]);
            case 22: return y.cell(a[1], a[2], a[3]);
            case 23: return y.copy(a[1], a[2], a[3], a[4], a[5]);
            case 24: return y.tell(a[1]);
            case 25: return y.print(a[1]);
            case 26: return y.as(a[1], a[2]);
            case 27: return y.trace();
            case 28: return y.fault();
            default: return y.many(a[1]);
        }
    }
}
