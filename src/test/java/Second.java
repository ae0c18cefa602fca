import java.math.BigInteger;
import java.util.ArrayList;
import java.util.List;
import java.util.regex.Matcher;
import java.util.regex.Pattern;

/**
 * The document a second time, written another way, to be asked the same as SpanWidths: cells are objects of classes
 * that extend one another, rows are real arrays whose faults the machine itself finds, texts are a regular
 * expression, WIDTHS are given out 1 after 1, and what is asked of another table is asked of a copy.
 */
final class Second {
    static final long LOST = Long.MIN_VALUE;
    private static final Pattern TEXT = Pattern.compile(textPattern());

    private List<Plain> cells = new ArrayList<>();
    private int[] promised = new int[0];
    private int manner = 0;
    private final List<int[]> readings = new ArrayList<>();
    private final Object[] sheets = new Object[4];
    private int trace = 0;
    private int fault = 0;

    // ---- kinds

    private interface Printed {
        int high();

        void leave(int body);

        default int printed() {
            leave(4);
            return high();
        }
    }

    private static class Plain implements Printed {
        final Second owner;
        final int first, over;
        int low, high;

        Plain(Second owner, int first, int over, int low, int high) {
            this.owner = owner;
            this.first = first;
            this.over = over;
            this.low = low;
            this.high = high;
        }

        int needs(int content) {
            return content;
        }

        int told() {
            leave(1);
            return low;
        }

        public int high() {
            return high;
        }

        public void leave(int body) {
            owner.trace = owner.trace * 31 + body;
        }
    }

    private static class Framed extends Plain {
        Framed(Second owner, int first, int over, int low, int high) {
            super(owner, first, over, low, high);
        }

        @Override int needs(int content) {
            return super.needs(content) + 1;
        }

        @Override int told() {
            leave(2);
            return super.told() + 100;
        }

        int plainTold() {
            return super.told();
        }
    }

    private static final class Doubled extends Framed {
        Doubled(Second owner, int first, int over, int low, int high) {
            super(owner, first, over, low, high);
        }

        @Override int needs(int content) {
            return content + content;
        }

        @Override int told() {
            leave(3);
            int framed = super.told();
            return framed + plainTold();
        }

        @Override public int printed() {
            leave(5);
            return 70;
        }
    }

    private static Plain make(Second owner, int kind, int first, int over, int low, int high) {
        return kind == 0 ? new Plain(owner, first, over, low, high)
            : kind == 1 ? new Framed(owner, first, over, low, high) : new Doubled(owner, first, over, low, high);
    }

    private static int kindOf(Plain cell) {
        return cell instanceof Doubled ? 2 : cell instanceof Framed ? 1 : 0;
    }

    // ---- tables

    private static String textPattern() {
        StringBuilder lowHigh = new StringBuilder();
        for (int low = 0; low <= 9; low++) lowHigh.append(low == 0 ? "" : "|").append(low).append('[').append(low).append("-9]");
        StringBuilder all = new StringBuilder();
        for (int columns = 1; columns <= 6; columns++) {
            StringBuilder where = new StringBuilder();
            for (int first = 0; first < columns; first++) {
                where.append(first == 0 ? "" : "|").append(first).append("[1-").append(Math.min(3, columns - first)).append(']');
            }
            all.append(columns == 1 ? "" : "|").append("t").append(columns);
            all.append("(?:;[pfd](?:").append(where).append(")(?:").append(lowHigh).append(")){1,9}");
        }
        return all.toString();
    }

    private static boolean goesOn(String text) {
        Matcher m = TEXT.matcher(text);
        return m.matches() || m.hitEnd();
    }

    private static int firstFault(String text) {
        if (TEXT.matcher(text).matches()) return -1;
        for (int n = 1; n <= text.length(); n++) {
            if (!goesOn(text.substring(0, n))) return n - 1;
        }
        return text.length();
    }

    private Second copied() {
        Second s = new Second();
        for (Plain c : cells) s.cells.add(make(s, kindOf(c), c.first, c.over, c.low, c.high));
        s.promised = promised.clone();
        s.manner = manner;
        for (int[] r : readings) s.readings.add(r);
        return s;
    }

    private int columns() {
        return promised.length;
    }

    private static int sum(int[] row, int from, int n) {
        int sum = 0;
        for (int q = from; q < from + n; q++) sum += row[q];
        return sum;
    }

    private static int sum(int[] row) {
        return sum(row, 0, row.length);
    }

    private void spread(int[] row, boolean most) {
        for (int over = 2; over <= 3; over++) {
            for (Plain c : cells) {
                if (c.over != over) continue;
                while (sum(row, c.first, over) < c.needs(most ? c.high : c.low)) {
                    int least = Integer.MAX_VALUE;
                    for (int q = c.first; q < c.first + over; q++) least = Math.min(least, row[q]);
                    int q = c.first;
                    while (row[q] != least) q++;
                    row[q]++;
                }
            }
        }
    }

    private int[] musts() {
        int[] row = new int[columns()];
        for (Plain c : cells) if (c.over == 1) row[c.first] = Math.max(row[c.first], c.needs(c.low));
        spread(row, false);
        return row;
    }

    private int[] woulds() {
        int[] row = musts();
        for (Plain c : cells) if (c.over == 1) row[c.first] = Math.max(row[c.first], c.needs(c.high));
        spread(row, true);
        return row;
    }

    private int[] widths(int n) {
        int[] would = woulds();
        int[] row = musts();
        for (int q = 0; q < row.length; q++) {
            while (promised[q] > 0 && row[q] < n * promised[q] / 10 && sum(row) < n) row[q]++;
        }
        while (sum(row) < n) {
            List<Integer> who = new ArrayList<>();
            for (int q = 0; q < row.length; q++) if (row[q] < would[q]) who.add(q);
            if (who.isEmpty()) for (int q = 0; q < row.length; q++) who.add(q);
            float best = Float.POSITIVE_INFINITY;
            int chosen = -1;
            for (int q : who) {
                float key = manner == 0 ? row[q] - would[q] : manner == 1 ? row[q] : (float) row[q] / (float) (would[q] + 1);
                if (key < best) {
                    best = key;
                    chosen = q;
                }
            }
            row[chosen]++;
        }
        return row;
    }

    private boolean fits(Plain c, int[] widths, int content) {
        return sum(widths, c.first, c.over) >= c.needs(content);
    }

    private int unfit(int[] widths, boolean most) {
        int set = 0;
        for (int c = 0; c < cells.size(); c++) {
            Plain cell = cells.get(c);
            if (!fits(cell, widths, most ? cell.high : cell.low)) set += 1 << c;
        }
        return set;
    }

    private static int widest(int[] widths) {
        int widest = 0;
        for (int q = 0; q < widths.length; q++) if (widths[q] > widths[widest]) widest = q;
        return widest;
    }

    private boolean readingsAreSo() {
        for (int[] r : readings) if (widths(r[0])[r[1]] != r[2]) return false;
        return true;
    }

    // ---- machine's faults

    private static int laneOf(Object row) {
        return row instanceof byte[] ? 0 : row instanceof short[] ? 1 : 2;
    }

    /** The cells of a row from i on, through the machine: a cast, a length, indices. */
    private static int[] through(Object row, int lane, int i, int n) {
        byte[] bytes = lane == 0 ? (byte[]) row : null;
        short[] shorts = lane == 1 ? (short[]) row : null;
        int[] ints = lane == 2 ? (int[]) row : null;
        int length = lane == 0 ? bytes.length : lane == 1 ? shorts.length : ints.length;
        if (n < 0) throw new NegativeArraySizeException();
        if (i < 0 || i > length || (long) i + n > length) throw new ArrayIndexOutOfBoundsException();
        int[] taken = new int[n];
        for (int k = 0; k < n; k++) taken[k] = lane == 0 ? bytes[i + k] : lane == 1 ? shorts[i + k] : ints[i + k];
        return taken;
    }

    private int faultOf(RuntimeException e) {
        fault = e instanceof NullPointerException ? 1 : e instanceof ClassCastException || e instanceof ArrayStoreException ? 2
            : e instanceof IndexOutOfBoundsException ? 3 : e instanceof NegativeArraySizeException ? 4 : 99;
        return -10 - fault;
    }

    private static boolean in(int x, int a, int b) {
        return x >= a && x <= b;
    }

    // ---- the face

    int table(int sheet, int lane, int i, int n) {
        fault = 0;
        if (!in(sheet, 0, 3)) return -1;
        if (!in(lane, 0, 2)) return -2;
        int[] codes;
        try {
            codes = through(sheets[sheet], lane, i, n);
        } catch (RuntimeException e) {
            return faultOf(e);
        }
        StringBuilder text = new StringBuilder();
        for (int code : codes) text.append(in(code, 1, 126) ? (char) code : '~');
        int wrong = firstFault(text.toString());
        if (wrong >= 0) return -100 - wrong;
        cells = new ArrayList<>();
        for (String part : text.substring(3).split(";")) {
            cells.add(make(this, "pfd".indexOf(part.charAt(0)), part.charAt(1) - '0', part.charAt(2) - '0', part.charAt(3) - '0',
                part.charAt(4) - '0'));
        }
        promised = new int[text.charAt(1) - '0'];
        manner = 0;
        readings.clear();
        return cells.size();
    }

    int ofCell(int c, int what) {
        if (!in(c, 0, cells.size() - 1)) return -1;
        Plain cell = cells.get(c);
        int set = 0;
        for (int q = cell.first; q < cell.first + cell.over; q++) set += 1 << q;
        int[] all = {kindOf(cell), set, cell.low, cell.high, cell.needs(cell.low), cell.needs(cell.high)};
        return in(what, 0, 5) ? all[what] : -2;
    }

    int ofColumn(int q, int what) {
        if (!in(q, 0, columns() - 1)) return -1;
        int set = 0;
        for (int c = 0; c < cells.size(); c++) if ((ofCell(c, 1) >> q & 1) == 1) set += 1 << c;
        int[] all = {musts()[q], woulds()[q], promised[q], set};
        return in(what, 0, 3) ? all[what] : -2;
    }

    int content(int c, int v, int w) {
        if (!in(c, 0, cells.size() - 1)) return -1;
        if (!(0 <= v && v <= w && w <= 9)) return -2;
        Plain cell = cells.get(c);
        int was = 10 * cell.low + cell.high;
        cell.low = v;
        cell.high = w;
        return was;
    }

    int promise(int q, int p) {
        if (!in(q, 0, columns() - 1)) return -1;
        if (!in(p, 0, 9)) return -2;
        int was = promised[q];
        promised[q] = p;
        return was;
    }

    int manner(int m) {
        if (columns() == 0) return -3;
        if (!in(m, 0, 2)) return -2;
        int was = manner;
        manner = m;
        return was;
    }

    int width(int q, int n) {
        if (!in(q, 0, columns() - 1)) return -1;
        return in(n, 0, 99) ? widths(n)[q] : -2;
    }

    int whole(int n, int what) {
        if (columns() == 0) return -3;
        if (!in(n, 0, 99) || !in(what, 0, 4)) return -2;
        int[] row = widths(n);
        int[] all = {sum(row), sum(row) > n ? 1 : 0, unfit(row, true), unfit(row, false), widest(row)};
        return all[what];
    }

    int day(int sheet, int lane, int i, int k, int n, int what) {
        fault = 0;
        if (!in(sheet, 0, 3)) return -1;
        if (!in(lane, 0, 2) || !in(k, 0, 20) || !in(n, 0, 99) || !in(what, 0, 15) || in(what, 5, 9)) return -2;
        int[] pairs;
        try {
            pairs = through(sheets[sheet], lane, i, 2 * k);
        } catch (RuntimeException e) {
            return faultOf(e);
        }
        if (columns() == 0) return -3;
        for (int p = 0; p < k; p++) {
            int b = pairs[2 * p + 1];
            int most = in(b, 0, 8) || in(b, 20, 25) ? 9 : b == 30 ? 2 : -1;
            if (!in(pairs[2 * p], 0, most)) return -2;
        }
        Second then = copied();
        for (int p = 0; p < k; p++) {
            if (then.act(pairs[2 * p], pairs[2 * p + 1])) continue;
            return what == 1 ? p : -100 - p;
        }
        if (what == 1) return -9;
        int[] row = then.widths(n);
        if (what >= 10) return what - 10 < row.length ? row[what - 10] : -9;
        int[] all = {sum(then.musts()), -9, sum(then.woulds()), then.unfit(row, true), widest(row)};
        return all[what];
    }

    private boolean act(int a, int b) {
        if (b == 30) {
            manner = a;
        } else if (b >= 20) {
            return promise(b - 20, a) >= 0;
        } else {
            if (b >= cells.size()) return false;
            Plain cell = cells.get(b);
            cell.high = a;
            if (cell.low > a) cell.low = a;
        }
        return true;
    }

    int firstFit(int c) {
        if (!in(c, 0, cells.size() - 1)) return -1;
        for (int n = 0; n < 100; n++) if (fits(cells.get(c), widths(n), cells.get(c).high)) return n;
        return -9;
    }

    int share(int q, int n) {
        if (!in(q, 0, columns() - 1)) return -1;
        if (!in(n, 0, 99)) return -2;
        int[] row = widths(n);
        return sum(row) == 0 ? 0 : Float.floatToIntBits((float) row[q] / (float) sum(row));
    }

    long mean(int n) {
        if (!in(n, 0, 99) || columns() == 0) return LOST;
        return Double.doubleToLongBits((double) sum(widths(n)) / columns());
    }

    int reading(int n, int q, int v) {
        if (!in(q, 0, columns() - 1)) return -1;
        if (!in(n, 0, 99) || !in(v, 0, 120)) return -2;
        if (readings.size() == 8) return -4;
        readings.add(new int[] {n, q, v});
        return readings.size() - 1;
    }

    int back(int k) {
        if (!in(k, 0, readings.size())) return -2;
        for (int left = k; left > 0; left--) readings.remove(readings.size() - 1);
        return readings.size();
    }

    int kinds(int c) {
        if (!in(c, 0, cells.size() - 1)) return -1;
        int set = 0;
        for (int kind = 0; kind < 3; kind++) {
            Second s = copied();
            Plain was = s.cells.get(c);
            s.cells.set(c, make(s, kind, was.first, was.over, was.low, was.high));
            if (s.readingsAreSo()) set += 1 << kind;
        }
        return set;
    }

    int lows(int c) {
        if (!in(c, 0, cells.size() - 1)) return -1;
        int set = 0;
        for (int low = 0; low <= cells.get(c).high; low++) {
            Second s = copied();
            s.cells.get(c).low = low;
            if (s.readingsAreSo()) set += 1 << low;
        }
        return set;
    }

    int manners() {
        if (columns() == 0) return -3;
        int set = 0;
        for (int m = 0; m < 3; m++) {
            Second s = copied();
            s.manner = m;
            if (s.readingsAreSo()) set += 1 << m;
        }
        return set;
    }

    long odds(int q, int v, int which) {
        if (!in(q, 0, columns() - 1) || !in(v, 0, 99) || !in(which, 0, 1)) return LOST;
        int count = 0;
        for (int n = 0; n < 64; n++) if (widths(n)[q] >= v) count++;
        int common = BigInteger.valueOf(count).gcd(BigInteger.valueOf(64)).intValue();
        return which == 0 ? count / common : 64 / common;
    }

    int sheet(int k, int lane, int n) {
        fault = 0;
        if (!in(k, 0, 3)) return -1;
        if (!in(lane, 0, 2) || n > 60) return -2;
        try {
            sheets[k] = lane == 0 ? new byte[n] : lane == 1 ? new short[n] : new int[n];
        } catch (RuntimeException e) {
            return faultOf(e);
        }
        return 1;
    }

    int lose(int k) {
        if (!in(k, 0, 3)) return -1;
        int had = sheets[k] == null ? 0 : 1;
        sheets[k] = null;
        return had;
    }

    int put(int k, int i, int v) {
        fault = 0;
        if (!in(k, 0, 3)) return -1;
        try {
            if (sheets[k] instanceof byte[] bytes) bytes[i] = (byte) v;
            else if (sheets[k] instanceof short[] shorts) shorts[i] = (short) v;
            else ((int[]) sheets[k])[i] = v;
        } catch (RuntimeException e) {
            return faultOf(e);
        }
        return 1;
    }

    long cell(int k, int i, int lane) {
        fault = 0;
        if (!in(k, 0, 3) || !in(lane, 0, 2)) return LOST;
        try {
            return lane == 0 ? ((byte[]) sheets[k])[i] : lane == 1 ? ((short[]) sheets[k])[i] : ((int[]) sheets[k])[i];
        } catch (RuntimeException e) {
            faultOf(e);
            return LOST;
        }
    }

    int copy(int k, int i, int other, int j, int n) {
        fault = 0;
        if (!in(k, 0, 3) || !in(other, 0, 3)) return -1;
        try {
            System.arraycopy(sheets[k], i, sheets[other], j, n);
        } catch (RuntimeException e) {
            return faultOf(e);
        }
        return n;
    }

    int tell(int c) {
        return in(c, 0, cells.size() - 1) ? cells.get(c).told() : -1;
    }

    int print(int c) {
        return in(c, 0, cells.size() - 1) ? cells.get(c).printed() : -1;
    }

    int as(int c, int kind) {
        fault = 0;
        if (!in(c, 0, cells.size() - 1)) return -1;
        if (!in(kind, 0, 2)) return -2;
        try {
            (kind == 0 ? Plain.class : kind == 1 ? Framed.class : Doubled.class).cast(cells.get(c));
        } catch (RuntimeException e) {
            return faultOf(e);
        }
        return 1;
    }

    int trace() {
        return trace;
    }

    int fault() {
        return fault;
    }

    int many(int what) {
        int[] all = {columns(), cells.size(), sum(musts()), sum(woulds()), readings.size(), manner};
        return in(what, 0, 5) ? all[what] : -2;
    }

    /** For a test that wants a reading that can be: WIDTH by another LOW of some cell, or by another manner. */
    int widthOtherwise(int q, int n, int c, int low, int otherManner) {
        Second s = copied();
        s.manner = otherManner;
        s.cells.get(c).low = Math.min(low, s.cells.get(c).high);
        return s.widths(n)[q];
    }

    int columnsNow() {
        return columns();
    }

    int cellsNow() {
        return cells.size();
    }

    int laneNow(int k) {
        return sheets[k] == null ? 0 : laneOf(sheets[k]);
    }

    int lengthNow(int k) {
        return sheets[k] == null ? 0 : java.lang.reflect.Array.getLength(sheets[k]);
    }
}
