import java.util.Arrays;

/**
 * Widths of a table's columns: cells of kinds over one column or several, told in a text, and how many units each
 * column has in a table of so many.
 */
public final class SpanWidths {
    public static final int UNKNOWN = -1, OUTSIDE = -2, STATE = -3, FULL = -4, NONE = -9;
    public static final long LOST = Long.MIN_VALUE;

    private static final int NULL_FAULT = 1, CAST_FAULT = 2, INDEX_FAULT = 3, SIZE_FAULT = 4;
    private static final int PLAIN = 0, FRAMED = 1, DOUBLE = 2;
    private static final int KINDS = 3, MANNERS = 3, LANES = 3, SHEETS = 4;
    private static final int MOST_COLUMNS = 6, MOST_CELLS = 9, MOST_SPAN = 3;
    private static final int MOST_READINGS = 8, MOST_NUMBERS = 60, MOST_PAIRS = 20;
    private static final int MOST_UNITS = 99, MOST_READ_WIDTH = 120, HALVINGS_OF_ODDS = 6;
    private static final int TEXT_HEAD = 2, TEXT_OF_CELL = 6, TAKEN = -1;
    private static final int FIRST_PROMISE_ACT = 20, MANNER_ACT = 30, FIRST_WIDTH_ASKED = 10;

    private final Layout now = new Layout();
    /** A second layout, used again and again for what would be, so that no call makes a new one. */
    private final Layout trial = new Layout();
    private final Readings readings = new Readings();
    private final Row[] rows = new Row[SHEETS];
    private int traced;
    private int lastFault;

    public SpanWidths() {
        for (int k = 0; k < SHEETS; k++) {
            rows[k] = new Row();
        }
    }

    // ---- 1 the table

    public int table(int sheet, int lane, int i, int n) {
        lastFault = 0;
        if (!between(sheet, 0, SHEETS - 1)) return UNKNOWN;
        if (!between(lane, 0, LANES - 1)) return OUTSIDE;
        int found = rows[sheet].faultOfCells(lane, i, n);
        if (found != 0) return faulted(found);
        int wrong = readText(rows[sheet], i, n, trial);
        if (wrong != TAKEN) return -100 - wrong;
        trial.settle();
        now.takeFrom(trial);
        readings.count = 0;
        return now.cells;
    }

    public int ofCell(int c, int what) {
        if (noCell(c)) return UNKNOWN;
        switch (what) {
            case 0: return now.kind[c];
            case 1: return now.columnsUnder(c);
            case 2: return now.low[c];
            case 3: return now.high[c];
            case 4: return need(now.kind[c], now.low[c]);
            case 5: return need(now.kind[c], now.high[c]);
            default: return OUTSIDE;
        }
    }

    public int ofColumn(int q, int what) {
        if (noColumn(q)) return UNKNOWN;
        switch (what) {
            case 0: return now.must[q];
            case 1: return now.would[q];
            case 2: return now.promised[q];
            case 3: return now.cellsOver(q);
            default: return OUTSIDE;
        }
    }

    public int content(int c, int v, int w) {
        if (noCell(c)) return UNKNOWN;
        if (!between(w, 0, 9) || !between(v, 0, w)) return OUTSIDE;
        int was = 10 * now.low[c] + now.high[c];
        now.low[c] = v;
        now.high[c] = w;
        now.settle();
        return was;
    }

    public int promise(int q, int p) {
        if (noColumn(q)) return UNKNOWN;
        if (!between(p, 0, 9)) return OUTSIDE;
        int was = now.promised[q];
        now.promised[q] = p;
        return was;
    }

    public int manner(int m) {
        if (noTable()) return STATE;
        if (!between(m, 0, MANNERS - 1)) return OUTSIDE;
        int was = now.manner;
        now.manner = m;
        return was;
    }

    // ---- 2 widths

    public int width(int q, int n) {
        if (noColumn(q)) return UNKNOWN;
        if (noUnits(n)) return OUTSIDE;
        now.fitTo(n);
        return now.width[q];
    }

    public int whole(int n, int what) {
        if (noTable()) return STATE;
        if (noUnits(n) || !between(what, 0, 4)) return OUTSIDE;
        now.fitTo(n);
        switch (what) {
            case 0: return now.total(now.width);
            case 1: return now.total(now.width) > n ? 1 : 0;
            case 2: return now.cellsWider(now.high);
            case 3: return now.cellsWider(now.low);
            default: return now.widest();
        }
    }

    public int day(int sheet, int lane, int i, int k, int n, int what) {
        lastFault = 0;
        if (!between(sheet, 0, SHEETS - 1)) return UNKNOWN;
        if (!between(lane, 0, LANES - 1) || !between(k, 0, MOST_PAIRS) || noUnits(n)) return OUTSIDE;
        if (!between(what, 0, 4) && !between(what, FIRST_WIDTH_ASKED, FIRST_WIDTH_ASKED + MOST_COLUMNS - 1)) return OUTSIDE;
        int found = rows[sheet].faultOfCells(lane, i, 2 * k);
        if (found != 0) return faulted(found);
        if (noTable()) return STATE;
        if (!areActs(rows[sheet].numbers, i, k)) return OUTSIDE;
        int wrong = liveDay(rows[sheet].numbers, i, k);
        if (what == 1) return wrong;
        if (wrong != NONE) return -100 - wrong;
        return ofTrial(n, what);
    }

    // ---- 3 shares

    public int firstFit(int c) {
        if (noCell(c)) return UNKNOWN;
        for (int n = 0; n <= MOST_UNITS; n++) {
            now.fitTo(n);
            if (now.underCell(now.width, c) >= need(now.kind[c], now.high[c])) return n;
        }
        return NONE;
    }

    public int share(int q, int n) {
        if (noColumn(q)) return UNKNOWN;
        if (noUnits(n)) return OUTSIDE;
        now.fitTo(n);
        return (int) bitsOfShare(now.width[q], now.total(now.width), 24, 127);
    }

    public long mean(int n) {
        if (noUnits(n) || noTable()) return LOST;
        now.fitTo(n);
        return bitsOfShare(now.total(now.width), now.columns, 53, 1023);
    }

    // ---- 4 how wide

    public int reading(int n, int q, int v) {
        if (noColumn(q)) return UNKNOWN;
        if (noUnits(n) || !between(v, 0, MOST_READ_WIDTH)) return OUTSIDE;
        if (readings.count >= MOST_READINGS) return FULL;
        return readings.add(n, q, v);
    }

    public int back(int k) {
        if (!between(k, 0, readings.count)) return OUTSIDE;
        readings.count -= k;
        return readings.count;
    }

    public int kinds(int c) {
        if (noCell(c)) return UNKNOWN;
        trial.takeFrom(now);
        int set = 0;
        for (int kind = 0; kind < KINDS; kind++) {
            trial.kind[c] = kind;
            trial.settle();
            if (readings.areSo(trial)) set |= 1 << kind;
        }
        return set;
    }

    public int lows(int c) {
        if (noCell(c)) return UNKNOWN;
        trial.takeFrom(now);
        int set = 0;
        for (int low = 0; low <= now.high[c]; low++) {
            trial.low[c] = low;
            trial.settle();
            if (readings.areSo(trial)) set |= 1 << low;
        }
        return set;
    }

    public int manners() {
        if (noTable()) return STATE;
        trial.takeFrom(now);
        int set = 0;
        for (int m = 0; m < MANNERS; m++) {
            trial.manner = m;
            if (readings.areSo(trial)) set |= 1 << m;
        }
        return set;
    }

    public long odds(int q, int v, int which) {
        if (noColumn(q)) return LOST;
        if (!between(v, 0, 99) || !between(which, 0, 1)) return LOST;
        int lower = 1 << HALVINGS_OF_ODDS;
        int upper = 0;
        for (int n = 0; n < 1 << HALVINGS_OF_ODDS; n++) {
            now.fitTo(n);
            if (now.width[q] >= v) upper++;
        }
        // the lower number is a power of two: halving both is all that least terms can take
        for (int halved = 0; halved < HALVINGS_OF_ODDS && upper % 2 == 0; halved++) {
            upper /= 2;
            lower /= 2;
        }
        return which == 0 ? upper : lower;
    }

    // ---- 5 sheets, parts

    public int sheet(int k, int lane, int n) {
        lastFault = 0;
        if (!between(k, 0, SHEETS - 1)) return UNKNOWN;
        if (!between(lane, 0, LANES - 1) || n > MOST_NUMBERS) return OUTSIDE;
        if (n < 0) return faulted(SIZE_FAULT);
        rows[k].begin(lane, n);
        return 1;
    }

    public int lose(int k) {
        if (!between(k, 0, SHEETS - 1)) return UNKNOWN;
        if (rows[k].isNothing()) return 0;
        rows[k].length = Row.NOTHING;
        return 1;
    }

    public int put(int k, int i, int v) {
        lastFault = 0;
        if (!between(k, 0, SHEETS - 1)) return UNKNOWN;
        if (rows[k].isNothing()) return faulted(NULL_FAULT);
        if (!rows[k].hasPlace(i)) return faulted(INDEX_FAULT);
        rows[k].numbers[i] = rows[k].cut(v);
        return 1;
    }

    public long cell(int k, int i, int lane) {
        lastFault = 0;
        if (!between(k, 0, SHEETS - 1) || !between(lane, 0, LANES - 1)) return LOST;
        int found = rows[k].faultOfPlace(lane, i);
        if (found != 0) {
            lastFault = found;
            return LOST;
        }
        return rows[k].numbers[i];
    }

    public int copy(int k, int i, int other, int j, int n) {
        lastFault = 0;
        if (!between(k, 0, SHEETS - 1) || !between(other, 0, SHEETS - 1)) return UNKNOWN;
        if (rows[k].isNothing() || rows[other].isNothing()) return faulted(NULL_FAULT);
        if (rows[k].lane != rows[other].lane) return faulted(CAST_FAULT);
        if (!rows[k].hasCells(i, n) || !rows[other].hasCells(j, n)) return faulted(INDEX_FAULT);
        System.arraycopy(rows[k].numbers, i, rows[other].numbers, j, n);
        return n;
    }

    public int tell(int c) {
        if (noCell(c)) return UNKNOWN;
        switch (now.kind[c]) {
            case PLAIN: return tellPlain(c);
            case FRAMED: return tellFramed(c);
            default: return tellDouble(c);
        }
    }

    public int print(int c) {
        if (noCell(c)) return UNKNOWN;
        return now.kind[c] == DOUBLE ? printDouble() : printLent(c);
    }

    public int as(int c, int kind) {
        lastFault = 0;
        if (noCell(c)) return UNKNOWN;
        if (!between(kind, 0, KINDS - 1)) return OUTSIDE;
        // each kind is one of all kinds with lower numbers, too
        return now.kind[c] < kind ? faulted(CAST_FAULT) : 1;
    }

    public int trace() {
        return traced;
    }

    public int fault() {
        return lastFault;
    }

    public int many(int what) {
        switch (what) {
            case 0: return now.columns;
            case 1: return now.cells;
            case 2: return now.total(now.must);
            case 3: return now.total(now.would);
            case 4: return readings.count;
            case 5: return now.manner;
            default: return OUTSIDE;
        }
    }

    // ---- what the calls share

    private static boolean between(int number, int least, int most) {
        return least <= number && number <= most;
    }

    private static boolean noUnits(int n) {
        return !between(n, 0, MOST_UNITS);
    }

    private boolean noTable() {
        return now.columns == 0;
    }

    private boolean noCell(int c) {
        return !between(c, 0, now.cells - 1);
    }

    private boolean noColumn(int q) {
        return !between(q, 0, now.columns - 1);
    }

    private int faulted(int found) {
        lastFault = found;
        return -10 - found;
    }

    /** What a cell of a kind needs for a LOW (LEAST) or a HIGH (MOST). */
    private static int need(int kind, int content) {
        switch (kind) {
            case PLAIN: return content;
            case FRAMED: return content + 1;
            default: return 2 * content;
        }
    }

    /**
     * The bits of upper by lower as a number of single or double precision. They are worked out in whole numbers,
     * for the language keeps no way to the bits of a float; both numbers are some hundreds at most.
     */
    private static long bitsOfShare(int upper, int lower, int precision, int bias) {
        if (upper <= 0 || lower <= 0) return 0;
        long scaled = upper;
        int shift = 0;
        while (shift < 62 && scaled < ((long) lower << (precision - 1))) {
            scaled *= 2;
            shift++;
        }
        long digits = scaled / lower;
        long twiceRest = 2 * (scaled % lower);
        if (twiceRest > lower || (twiceRest == lower && digits % 2 != 0)) digits++;
        // the leading digit, which isn't kept, counts as 1 more of the exponent, as does a carry
        long exponent = bias + precision - 1 - shift - 1;
        return (exponent << (precision - 1)) + digits;
    }

    // ---- texts

    /** Reads a text into a layout: its first fault, or TAKEN. All n cells must be there. */
    private static int readText(Row row, int i, int n, Layout into) {
        into.clear();
        for (int place = 0; place < n; place++) {
            if (!readCode(into, place, row.numbers[i + place])) return place;
        }
        boolean ended = into.cells > 0 && n == TEXT_HEAD + TEXT_OF_CELL * into.cells;
        return ended ? TAKEN : n;
    }

    private static boolean readCode(Layout into, int place, int code) {
        if (place == 0) return code == 't';
        if (place == 1) {
            into.columns = code - '0';
            return between(code, '1', '0' + MOST_COLUMNS);
        }
        int c = (place - TEXT_HEAD) / TEXT_OF_CELL;
        if (c >= MOST_CELLS) return false;
        return readCellCode(into, c, (place - TEXT_HEAD) % TEXT_OF_CELL, code);
    }

    private static boolean readCellCode(Layout into, int c, int place, int code) {
        int digit = code - '0';
        switch (place) {
            case 0:
                return code == ';';
            case 1:
                into.kind[c] = code == 'p' ? PLAIN : code == 'f' ? FRAMED : DOUBLE;
                return code == 'p' || code == 'f' || code == 'd';
            case 2:
                into.first[c] = digit;
                return between(digit, 0, into.columns - 1);
            case 3:
                into.span[c] = digit;
                return between(digit, 1, Math.min(MOST_SPAN, into.columns - into.first[c]));
            case 4:
                into.low[c] = digit;
                return between(digit, 0, 9);
            default:
                into.high[c] = digit;
                into.cells = c + 1;
                return between(digit, into.low[c], 9);
        }
    }

    // ---- days

    private static boolean areActs(int[] numbers, int i, int k) {
        for (int pair = 0; pair < k; pair++) {
            if (!isAct(numbers[i + 2 * pair], numbers[i + 2 * pair + 1])) return false;
        }
        return true;
    }

    private static boolean isAct(int number, int act) {
        if (act == MANNER_ACT) return between(number, 0, MANNERS - 1);
        boolean known = between(act, 0, MOST_CELLS - 1)
                || between(act, FIRST_PROMISE_ACT, FIRST_PROMISE_ACT + MOST_COLUMNS - 1);
        return known && between(number, 0, 9);
    }

    /** Lets the trial layout live a day, from how all is now: the first wrong act, or NONE. */
    private int liveDay(int[] numbers, int i, int k) {
        trial.takeFrom(now);
        for (int pair = 0; pair < k; pair++) {
            if (!actOnTrial(numbers[i + 2 * pair], numbers[i + 2 * pair + 1])) return pair;
        }
        trial.settle();
        return NONE;
    }

    private boolean actOnTrial(int number, int act) {
        if (act == MANNER_ACT) {
            trial.manner = number;
            return true;
        }
        if (act >= FIRST_PROMISE_ACT) {
            int q = act - FIRST_PROMISE_ACT;
            if (q >= trial.columns) return false;
            trial.promised[q] = number;
            return true;
        }
        if (act >= trial.cells) return false;
        trial.high[act] = number;
        trial.low[act] = Math.min(trial.low[act], number);
        return true;
    }

    private int ofTrial(int n, int what) {
        trial.fitTo(n);
        switch (what) {
            case 0: return trial.total(trial.must);
            case 2: return trial.total(trial.would);
            case 3: return trial.cellsWider(trial.high);
            case 4: return trial.widest();
            default:
                int q = what - FIRST_WIDTH_ASKED;
                return between(q, 0, trial.columns - 1) ? trial.width[q] : NONE;
        }
    }

    // ---- bodies that tell and print

    private void leaveTrace(int body) {
        traced = 31 * traced + body;
    }

    private int tellPlain(int c) {
        leaveTrace(1);
        return now.low[c];
    }

    private int tellFramed(int c) {
        leaveTrace(2);
        return tellPlain(c) + 100;
    }

    private int tellDouble(int c) {
        leaveTrace(3);
        int framed = tellFramed(c);
        return framed + tellPlain(c);
    }

    private int printLent(int c) {
        leaveTrace(4);
        return now.high[c];
    }

    private int printDouble() {
        leaveTrace(5);
        return 70;
    }

    /**
     * A table: its columns and cells, and what follows from them. Cells lie over columns that there are: the text's
     * reader sees to that, and nothing moves a cell afterwards.
     */
    private static final class Layout {
        /** 0: there is no table. */
        int columns;
        int cells;
        int manner;
        final int[] kind = new int[MOST_CELLS];
        final int[] first = new int[MOST_CELLS];
        final int[] span = new int[MOST_CELLS];
        final int[] low = new int[MOST_CELLS];
        final int[] high = new int[MOST_CELLS];
        final int[] promised = new int[MOST_COLUMNS];
        /** As of the latest settle(). */
        final int[] must = new int[MOST_COLUMNS];
        /** As of the latest settle(). */
        final int[] would = new int[MOST_COLUMNS];
        /** As of the latest fitTo(n). */
        final int[] width = new int[MOST_COLUMNS];

        void clear() {
            columns = 0;
            cells = 0;
            manner = 0;
            Arrays.fill(promised, 0);
        }

        void takeFrom(Layout other) {
            columns = other.columns;
            cells = other.cells;
            manner = other.manner;
            System.arraycopy(other.kind, 0, kind, 0, MOST_CELLS);
            System.arraycopy(other.first, 0, first, 0, MOST_CELLS);
            System.arraycopy(other.span, 0, span, 0, MOST_CELLS);
            System.arraycopy(other.low, 0, low, 0, MOST_CELLS);
            System.arraycopy(other.high, 0, high, 0, MOST_CELLS);
            System.arraycopy(other.promised, 0, promised, 0, MOST_COLUMNS);
            System.arraycopy(other.must, 0, must, 0, MOST_COLUMNS);
            System.arraycopy(other.would, 0, would, 0, MOST_COLUMNS);
        }

        int columnsUnder(int c) {
            return ((1 << span[c]) - 1) << first[c];
        }

        int cellsOver(int q) {
            int set = 0;
            for (int c = 0; c < cells; c++) {
                if (first[c] <= q && q < first[c] + span[c]) set |= 1 << c;
            }
            return set;
        }

        /** Works out MUST and WOULD. */
        void settle() {
            Arrays.fill(must, 0);
            spread(must, low);
            System.arraycopy(must, 0, would, 0, MOST_COLUMNS);
            spread(would, high);
        }

        /** Raises columns, unit by unit, to what cells need; over one column alone that is the greatest need. */
        private void spread(int[] row, int[] content) {
            for (int over = 1; over <= MOST_SPAN; over++) {
                for (int c = 0; c < cells; c++) {
                    if (span[c] == over) raise(row, c, need(kind[c], content[c]));
                }
            }
        }

        private void raise(int[] row, int c, int needed) {
            for (int have = underCell(row, c); have < needed; have++) {
                row[leastUnder(row, c)]++;
            }
        }

        private int leastUnder(int[] row, int c) {
            int least = first[c];
            for (int q = first[c] + 1; q < first[c] + span[c]; q++) {
                if (row[q] < row[least]) least = q;
            }
            return least;
        }

        /** What the columns under a cell have together. */
        int underCell(int[] row, int c) {
            int sum = 0;
            for (int q = first[c]; q < first[c] + span[c]; q++) {
                sum += row[q];
            }
            return sum;
        }

        int total(int[] row) {
            int sum = 0;
            for (int q = 0; q < columns; q++) {
                sum += row[q];
            }
            return sum;
        }

        /** Works out the WIDTHS for a table of n units. */
        void fitTo(int n) {
            System.arraycopy(must, 0, width, 0, MOST_COLUMNS);
            for (int all = keepPromises(n, total(width)); all < n; all++) {
                width[nextColumn()]++;
            }
        }

        private int keepPromises(int n, int all) {
            int together = all;
            for (int q = 0; q < columns; q++) {
                int more = Math.min(n * promised[q] / 10 - width[q], n - together);
                if (more > 0) {
                    width[q] += more;
                    together += more;
                }
            }
            return together;
        }

        private int nextColumn() {
            int next = 0;
            for (int q = 1; q < columns; q++) {
                if (goesAhead(q, next)) next = q;
            }
            return next;
        }

        /** Whether a column gets a unit rather than an earlier one: what hasn't what it would goes first. */
        private boolean goesAhead(int q, int earlier) {
            boolean wants = width[q] < would[q];
            boolean earlierWants = width[earlier] < would[earlier];
            if (wants != earlierWants) return wants;
            switch (manner) {
                case 0: return would[q] - width[q] > would[earlier] - width[earlier];
                case 1: return width[q] < width[earlier];
                default: return fullness(q) < fullness(earlier);
            }
        }

        private float fullness(int q) {
            return (float) width[q] / (float) (would[q] + 1);
        }

        /** Cells that by LOW or HIGH need more than the WIDTHS of their columns together. */
        int cellsWider(int[] content) {
            int set = 0;
            for (int c = 0; c < cells; c++) {
                if (underCell(width, c) < need(kind[c], content[c])) set |= 1 << c;
            }
            return set;
        }

        int widest() {
            int widest = 0;
            for (int q = 1; q < columns; q++) {
                if (width[q] > width[widest]) widest = q;
            }
            return widest;
        }
    }

    /** What was read of widths: for units[k] column[k] has width[k]. */
    private static final class Readings {
        int count;
        final int[] units = new int[MOST_READINGS];
        final int[] column = new int[MOST_READINGS];
        final int[] width = new int[MOST_READINGS];

        /** There must be room for one more. */
        int add(int n, int q, int v) {
            units[count] = n;
            column[count] = q;
            width[count] = v;
            count++;
            return count - 1;
        }

        boolean areSo(Layout layout) {
            for (int k = 0; k < count; k++) {
                layout.fitTo(units[k]);
                if (layout.width[column[k]] != width[k]) return false;
            }
            return true;
        }
    }

    /** What a sheet has. The room for its numbers is made once; how many of them there are is told by length. */
    private static final class Row {
        static final int NOTHING = -1;
        int lane;
        int length = NOTHING;
        final int[] numbers = new int[MOST_NUMBERS];

        void begin(int newLane, int n) {
            lane = newLane;
            length = n;
            Arrays.fill(numbers, 0);
        }

        boolean isNothing() {
            return length == NOTHING;
        }

        boolean hasPlace(int i) {
            return between(i, 0, length - 1);
        }

        boolean hasCells(int i, int n) {
            return between(i, 0, length) && between(n, 0, length - i);
        }

        /** The first fault of n cells from i on, taken as of a lane; 0: none. */
        int faultOfCells(int takenAs, int i, int n) {
            if (isNothing()) return NULL_FAULT;
            if (lane != takenAs) return CAST_FAULT;
            if (n < 0) return SIZE_FAULT;
            return hasCells(i, n) ? 0 : INDEX_FAULT;
        }

        /** The first fault of the cell i, taken as of a lane; 0: none. */
        int faultOfPlace(int takenAs, int i) {
            if (isNothing()) return NULL_FAULT;
            if (lane != takenAs) return CAST_FAULT;
            return hasPlace(i) ? 0 : INDEX_FAULT;
        }

        int cut(int v) {
            switch (lane) {
                case 0: return (byte) v;
                case 1: return (short) v;
                default: return v;
            }
        }
    }
}
