/**
 * Three rows of symbols that are compared, patched and merged.
 *
 * Every array is made in the constructor and used again by each call, so that a run of calls makes
 * no further objects.
 */
public final class DiffDesk {
    public static final int NONE = -1;

    private static final int ROWS = 3;
    private static final int ROW_MOST = 20;
    private static final int SYMBOL_MOST = 30000;
    private static final int LIMIT_MOST = 40;
    private static final int SCRIPT_MOST = 60;
    private static final int PATCHED_MOST = 60;
    private static final int AROUND_MOST = 9;
    private static final int NO_RESULT = -40;

    private static final int DELETE = 0;
    private static final int INSERT = 1;
    private static final int KEEP = 2;

    private static final int BEFORE_ROW_1 = -1;
    private static final int BEFORE_ROW_2 = -2;
    private static final int BEHIND_ROW_2 = -3;

    // Every symbol of all three rows, and three marks for each stretch before, between and behind
    // the stable symbols: no merge can need more.
    private static final int MERGED_MOST = ROWS * ROW_MOST + 3 * (ROW_MOST + 1);

    private final int limit;
    private final Row[] rows;
    private final Script script;
    private final Script latest;
    private int latestSize;
    private final Comparison comparison;
    private final Merger merger;
    private Row result;
    private Row draft;

    public DiffDesk(int limit) {
        this.limit = Math.max(0, Math.min(LIMIT_MOST, limit));
        rows = new Row[ROWS];
        for (int row = 0; row < ROWS; row++) {
            rows[row] = new Row(ROW_MOST);
        }
        script = new Script();
        latest = new Script();
        latestSize = 0;
        comparison = new Comparison();
        merger = new Merger();
        result = new Row(MERGED_MOST);
        draft = new Row(MERGED_MOST);
    }

    public boolean feed(int row, short symbol) {
        return isRow(row) && isSymbol(symbol) && rows[row].add(symbol);
    }

    public boolean clear(int row) {
        if (!isRow(row)) {
            return false;
        }
        rows[row].empty();
        return true;
    }

    public int size(int row) {
        return isRow(row) ? rows[row].count : NONE;
    }

    public short symbol(int row, int k) {
        return isRow(row) ? (short) rows[row].at(k, NONE) : (short) NONE;
    }

    public int diff(int a, int b) throws IllegalArgumentException, IllegalStateException {
        if (!isRow(a) || !isRow(b)) {
            throw new IllegalArgumentException("no such row");
        }
        comparison.compare(rows[a], rows[b]);
        if (comparison.operations() > limit) {
            throw new IllegalStateException("more operations than the limit");
        }
        comparison.writeTo(script);
        // load and forget change the script, and feed and clear the row, but hunks asks for both as
        // they are now.
        comparison.writeTo(latest);
        latestSize = rows[a].count;
        return script.count;
    }

    public int operation(int k, int what) {
        if (!script.has(k)) {
            return NONE;
        }
        switch (what) {
            case 0:
                return script.kinds[k];
            case 1:
                return script.places[k];
            case 2:
                return script.symbols[k];
            default:
                return NONE;
        }
    }

    public void forget() {
        script.empty();
    }

    public boolean load(int kind, int place, int symbol) {
        return script.add(kind, place, symbol);
    }

    public int patch(int row) throws IllegalArgumentException, IndexOutOfBoundsException,
            IllegalStateException, UnsupportedOperationException {
        if (!isRow(row)) {
            throw new IllegalArgumentException("no such row");
        }
        Row from = rows[row];
        // The result must stay as it is if an operation throws.
        draft.empty();
        int taken = 0;
        for (int k = 0; k < script.count; k++) {
            checkOperation(from, k);
            int place = script.places[k];
            boolean inserts = script.kinds[k] == INSERT;
            checkRoom(place - taken + (inserts ? 1 : 0));
            draft.addAll(from, taken, place);
            taken = script.behind(k);
            if (inserts) {
                draft.add(script.symbols[k]);
            }
        }
        checkRoom(from.count - taken);
        draft.addAll(from, taken, from.count);
        swapResultAndDraft();
        return result.count;
    }

    public int merge() {
        result.empty();
        merger.begin(rows[0], rows[1], rows[2], comparison);
        return merger.mergeTo(result);
    }

    public int result(int k) {
        return result.at(k, NO_RESULT);
    }

    public int results() {
        return result.count;
    }

    public int hunks(int n) {
        if (!isAround(n)) {
            return 0;
        }
        int found = 0;
        for (int k = 0; k < latest.count; k++) {
            if (latest.beginsHunk(k, n)) {
                found++;
            }
        }
        return found;
    }

    public int hunk(int n, int k, int what) {
        if (k < 0 || k >= hunks(n)) {
            return NONE;
        }
        int first = latest.firstOfHunk(k, n);
        int last = latest.lastOfHunk(first, n);
        int begin = Math.max(0, latest.placeOf(first) - n);
        switch (what) {
            case 0:
                return begin;
            case 1:
                return Math.min(latestSize, latest.behind(last) + n) - begin;
            case 2:
                return latest.countKind(INSERT, first, last);
            case 3:
                return latest.countKind(DELETE, first, last);
            default:
                return NONE;
        }
    }

    public float alike(int a, int b) {
        if (!isRow(a) || !isRow(b)) {
            return -1.0f;
        }
        int both = rows[a].count + rows[b].count;
        if (both == 0) {
            return 1.0f;
        }
        comparison.compare(rows[a], rows[b]);
        // Each operation stands for one symbol of one row, each symbol kept for one of both rows.
        int keptTwice = both - comparison.operations();
        return (float) keptTwice / (float) both;
    }

    private static boolean isRow(int row) {
        return row >= 0 && row < ROWS;
    }

    private static boolean isSymbol(int symbol) {
        return symbol >= 0 && symbol <= SYMBOL_MOST;
    }

    private static boolean isAround(int n) {
        return n >= 0 && n <= AROUND_MOST;
    }

    private void checkOperation(Row from, int k) {
        int kind = script.kinds[k];
        int place = script.places[k];
        if ((kind != DELETE && kind != INSERT) || !isSymbol(script.symbols[k])) {
            throw new IllegalArgumentException("no such kind or symbol");
        }
        int lastPlace = kind == INSERT ? from.count : from.count - 1;
        int firstPlace = k > 0 ? script.behind(k - 1) : 0;
        if (place < firstPlace || place > lastPlace) {
            throw new IndexOutOfBoundsException("no such place, or one passed already");
        }
        if (kind == DELETE && from.at(place, NONE) != script.symbols[k]) {
            throw new IllegalStateException("another symbol is there");
        }
    }

    private void checkRoom(int more) {
        if (draft.count + more > PATCHED_MOST) {
            throw new UnsupportedOperationException("the result is too long");
        }
    }

    private void swapResultAndDraft() {
        Row old = result;
        result = draft;
        draft = old;
    }

    /** Numbers in order, at most as many as the room made for them. */
    private static final class Row {
        private final int[] items;
        private int count;

        Row(int most) {
            items = new int[most];
            count = 0;
        }

        void empty() {
            count = 0;
        }

        boolean add(int item) {
            if (count >= items.length) {
                return false;
            }
            items[count] = item;
            count++;
            return true;
        }

        void addAll(Row other, int from, int to) {
            for (int k = from; k < to; k++) {
                add(other.at(k, NONE));
            }
        }

        int at(int k, int otherwise) {
            return k >= 0 && k < count ? items[k] : otherwise;
        }
    }

    /** Operations in order, and the hunks they fall into. */
    private static final class Script {
        private final int[] kinds;
        private final int[] places;
        private final int[] symbols;
        private int count;

        Script() {
            kinds = new int[SCRIPT_MOST];
            places = new int[SCRIPT_MOST];
            symbols = new int[SCRIPT_MOST];
            count = 0;
        }

        void empty() {
            count = 0;
        }

        boolean add(int kind, int place, int symbol) {
            if (count >= SCRIPT_MOST) {
                return false;
            }
            kinds[count] = kind;
            places[count] = place;
            symbols[count] = symbol;
            count++;
            return true;
        }

        boolean has(int k) {
            return k >= 0 && k < count;
        }

        int placeOf(int k) {
            return has(k) ? places[k] : 0;
        }

        /** The first place that operation k leaves to the ones behind it. */
        int behind(int k) {
            if (!has(k)) {
                return 0;
            }
            return kinds[k] == DELETE ? places[k] + 1 : places[k];
        }

        boolean beginsHunk(int k, int around) {
            return k == 0 || placeOf(k) - behind(k - 1) > 2 * around;
        }

        int firstOfHunk(int hunk, int around) {
            int before = -1;
            for (int k = 0; k < count; k++) {
                if (beginsHunk(k, around)) {
                    before++;
                }
                if (before == hunk) {
                    return k;
                }
            }
            return count;
        }

        int lastOfHunk(int first, int around) {
            int last = first;
            while (last + 1 < count && !beginsHunk(last + 1, around)) {
                last++;
            }
            return last;
        }

        int countKind(int kind, int first, int last) {
            int found = 0;
            for (int k = first; k <= last; k++) {
                if (has(k) && kinds[k] == kind) {
                    found++;
                }
            }
            return found;
        }
    }

    /** The least script between the two rows compared latest. */
    private static final class Comparison {
        private final int[][] rest;
        private Row a;
        private Row b;

        Comparison() {
            rest = new int[ROW_MOST + 1][ROW_MOST + 1];
            a = new Row(0);
            b = new Row(0);
        }

        void compare(Row from, Row to) {
            a = from;
            b = to;
            for (int i = a.count; i >= 0; i--) {
                for (int j = b.count; j >= 0; j--) {
                    rest[i][j] = restAt(i, j);
                }
            }
        }

        int operations() {
            return rest[0][0];
        }

        void writeTo(Script script) {
            script.empty();
            int i = 0;
            int j = 0;
            // Each step moves i or j on, and neither goes beyond its end.
            while (i + j < a.count + b.count) {
                int step = stepAt(i, j);
                if (step == DELETE) {
                    script.add(DELETE, i, a.at(i, NONE));
                } else if (step == INSERT) {
                    script.add(INSERT, i, b.at(j, NONE));
                }
                i += step == INSERT ? 0 : 1;
                j += step == DELETE ? 0 : 1;
            }
        }

        /** For each place of a, the place of b that it is kept with, or NONE. */
        void pairTo(Row keptWith) {
            keptWith.empty();
            int i = 0;
            int j = 0;
            while (i + j < a.count + b.count) {
                int step = stepAt(i, j);
                if (step != INSERT) {
                    keptWith.add(step == KEEP ? j : NONE);
                }
                i += step == INSERT ? 0 : 1;
                j += step == DELETE ? 0 : 1;
            }
        }

        private int restAt(int i, int j) {
            if (i >= a.count || j >= b.count) {
                return a.count - i + b.count - j;
            }
            if (isSame(i, j)) {
                return rest[i + 1][j + 1];
            }
            return 1 + Math.min(rest[i + 1][j], rest[i][j + 1]);
        }

        private int stepAt(int i, int j) {
            if (isSame(i, j)) {
                return KEEP;
            }
            return i < a.count && rest[i + 1][j] < rest[i][j] ? DELETE : INSERT;
        }

        private boolean isSame(int i, int j) {
            return i < a.count && j < b.count && a.items[i] == b.items[j];
        }
    }

    /** The symbols of one row between two stable ones. */
    private static final class Stretch {
        private Row row;
        private int from;
        private int to;

        Stretch() {
            row = new Row(0);
            from = 0;
            to = 0;
        }

        void begin(Row in) {
            row = in;
            from = 0;
            to = 0;
        }

        void endBefore(int place) {
            to = place;
        }

        void goOnBehindStable() {
            from = to + 1;
        }

        int endOfRow() {
            return row.count;
        }

        int symbolAt(int place) {
            return row.at(place, NONE);
        }

        boolean isSameAs(Stretch other) {
            if (to - from != other.to - other.from) {
                return false;
            }
            for (int k = 0; k < to - from; k++) {
                if (symbolAt(from + k) != other.symbolAt(other.from + k)) {
                    return false;
                }
            }
            return true;
        }

        void addTo(Row result) {
            result.addAll(row, from, to);
        }
    }

    /** Merges two rows over their base. */
    private static final class Merger {
        private final Row keptWith1;
        private final Row keptWith2;
        private final Stretch base;
        private final Stretch one;
        private final Stretch two;

        Merger() {
            keptWith1 = new Row(ROW_MOST);
            keptWith2 = new Row(ROW_MOST);
            base = new Stretch();
            one = new Stretch();
            two = new Stretch();
        }

        void begin(Row baseRow, Row row1, Row row2, Comparison comparison) {
            comparison.compare(baseRow, row1);
            comparison.pairTo(keptWith1);
            comparison.compare(baseRow, row2);
            comparison.pairTo(keptWith2);
            base.begin(baseRow);
            one.begin(row1);
            two.begin(row2);
        }

        /** Answers how many conflicts there were. */
        int mergeTo(Row result) {
            int conflicts = 0;
            for (int k = 0; k < base.endOfRow(); k++) {
                if (isStable(k)) {
                    endStretches(k, keptWith1.at(k, NONE), keptWith2.at(k, NONE));
                    conflicts += mergeStretch(result);
                    result.add(base.symbolAt(k));
                    goOnBehindStable();
                }
            }
            endStretches(base.endOfRow(), one.endOfRow(), two.endOfRow());
            return conflicts + mergeStretch(result);
        }

        private boolean isStable(int k) {
            return keptWith1.at(k, NONE) != NONE && keptWith2.at(k, NONE) != NONE;
        }

        private void endStretches(int baseEnd, int end1, int end2) {
            base.endBefore(baseEnd);
            one.endBefore(end1);
            two.endBefore(end2);
        }

        private void goOnBehindStable() {
            base.goOnBehindStable();
            one.goOnBehindStable();
            two.goOnBehindStable();
        }

        /** Answers 1 for a conflict, else 0. */
        private int mergeStretch(Row result) {
            if (one.isSameAs(two) || two.isSameAs(base)) {
                one.addTo(result);
                return 0;
            }
            if (one.isSameAs(base)) {
                two.addTo(result);
                return 0;
            }
            result.add(BEFORE_ROW_1);
            one.addTo(result);
            result.add(BEFORE_ROW_2);
            two.addTo(result);
            result.add(BEHIND_ROW_2);
            return 1;
        }
    }
}
