import java.util.NoSuchElementException;

/** A store for small tables by columns, with filters, sorts, joins, groups and versions. */
public final class ColumnVault {
    public static final int NONE = -1;
    public static final long MISSING = -9000000000L;
    public static final int NUMBER = 0, TEXT = 1;
    public static final int SET = 0, AND = 1, OR = 2, WITHOUT = 3;
    public static final int INNER = 0, LEFT = 1, ANTI = 2;

    private static final int TABLES = 3;
    private static final int COLUMNS = 4;
    private static final int ROWS = 40;
    private static final int VERSIONS = 12;
    private static final long LARGEST = 1000000;
    private static final int LARGEST_STEP = 1000;
    private static final int LETTERS = 7;
    private static final int TEXT_LENGTH = 160;
    private static final long LEAST_KEY = MISSING + 1, GREATEST_KEY = Long.MAX_VALUE;

    private static final int END = 0, NOTHING = 1, COLUMN = '#', NUMERAL = '0', WORD = 'a';
    private static final long WORD_TO = 't' << 8 | 'o', WORD_IN = 'i' << 8 | 'n', WORD_MISSING = 0x6d697373696e67L;
    private static final int MISPLACED = 1, BEYOND = 2, OTHER_KIND = 3;
    private static final int OPEN_BRACKETS = 6;
    private static final int TURNS = 3;
    private static final int LISTED = 6;
    private static final int UP_TO = 't', LIST = 'i', LACKS = 'm';
    private static final int TEST = 0, PART = 1, FILTER = 2;
    private static final int TREE_DEPTH = 2 * OPEN_BRACKETS + 2;

    private static final int HOW_MANY = 0, SUM = 1, LEAST = 2, GREATEST = 3, DIFFERENT = 5;

    private static final String FIRST_EXAMPLE = "#0 < 5 & !(#1 = b | #1 missing)";
    private static final String SECOND_EXAMPLE = "#0 to -3 3 | #0 in 7 9 11 & !#0 = 9";
    private static final String THIRD_EXAMPLE = "!(#0 missing) & (#0 > 2 | #0 < -2) & #0 to -9 9";

    private final History history = new History();
    private final FilterText text = new FilterText();
    private final Tokens tokens = new Tokens();
    private final Pairs pairs = new Pairs();
    private final Groups groups = new Groups();
    private final Checks checks = new Checks();

    public ColumnVault() {
    }

    public int addColumn(int table, int kind) throws IndexOutOfBoundsException, IllegalArgumentException, IllegalStateException {
        Sheet sheet = sheetOf(table);
        if (kind != NUMBER && kind != TEXT) {
            throw new IllegalArgumentException("no such kind");
        }
        if (sheet.columns >= COLUMNS) {
            throw new IllegalStateException("too many columns");
        }
        return nextSheetOf(table).appendColumn(kind);
    }

    public int addRow(int table) throws IndexOutOfBoundsException, IllegalStateException {
        if (sheetOf(table).rows >= ROWS) {
            throw new IllegalStateException("too many rows");
        }
        return nextSheetOf(table).appendRow();
    }

    public int fill(int table, int column, int first, int step, int many) throws IndexOutOfBoundsException, IllegalArgumentException, IllegalStateException {
        Sheet sheet = sheetWith(table, column);
        if (sheet.kindOf(column) != NUMBER || !isNumber(first) || step < -LARGEST_STEP || step > LARGEST_STEP
                || many < 1 || many > ROWS || !isNumber(first + step * (many - 1))) {
            throw new IllegalArgumentException("no such numbers");
        }
        if (sheet.rows + many > ROWS) {
            throw new IllegalStateException("too many rows");
        }
        Sheet filled = nextSheetOf(table);
        for (int i = 0; i < many; i++) {
            filled.putKey(column, filled.appendRow(), first + step * i);
        }
        return filled.rows;
    }

    public boolean set(int table, int row, int column, long value) throws IndexOutOfBoundsException, IllegalArgumentException {
        Sheet sheet = sheetWith(table, column);
        requireRow(sheet, row);
        int kind = sheet.kindOf(column);
        if (value != MISSING) {
            requireValue(kind, value);
        }
        long before = sheet.keyAt(column, row);
        long key = keyOf(kind, value);
        nextSheetOf(table).putKey(column, row, key);
        return key != before;
    }

    public int remove(int table, int row) throws IndexOutOfBoundsException {
        requireRow(sheetOf(table), row);
        Sheet sheet = nextSheetOf(table);
        sheet.dropRow(row);
        return sheet.rows;
    }

    public long get(int table, int row, int column) throws IndexOutOfBoundsException {
        Sheet sheet = sheetWith(table, column);
        requireRow(sheet, row);
        return sheet.valueOf(column, row);
    }

    public int size(int table, int what) throws IndexOutOfBoundsException, IllegalArgumentException {
        Sheet sheet = sheetOf(table);
        switch (what) {
            case 0:
                return sheet.rows;
            case 1:
                return sheet.columns;
            case 2:
                return Long.bitCount(sheet.chosen);
            case 3:
                return sheet.missingValues();
            default:
                throw new IllegalArgumentException("no such size");
        }
    }

    public int kind(int table, int column) throws IndexOutOfBoundsException {
        return sheetWith(table, column).kindOf(column);
    }

    public int version() {
        return history.now;
    }

    public int back(int version) throws IndexOutOfBoundsException {
        if (!history.keeps(version)) {
            throw new IndexOutOfBoundsException("no such version");
        }
        history.makeNextFrom(version);
        return history.now;
    }

    public int sort(int table, int column, boolean isDown, boolean isMissingFirst) throws IndexOutOfBoundsException {
        Sheet before = sheetWith(table, column);
        Sheet sheet = nextSheetOf(table);
        sheet.orderBy(column, isDown, isMissingFirst);
        return sheet.placesUnlike(before);
    }

    public int rowAt(int table, int place) throws IndexOutOfBoundsException {
        Sheet sheet = sheetOf(table);
        requirePlace(sheet, place);
        return sheet.rowInOrder(place);
    }

    public int placeOf(int table, int row) throws IndexOutOfBoundsException {
        Sheet sheet = sheetOf(table);
        requireRow(sheet, row);
        return sheet.placeInOrder(row);
    }

    public boolean isChosen(int table, int row) throws IndexOutOfBoundsException {
        Sheet sheet = sheetOf(table);
        requireRow(sheet, row);
        return holdsRow(sheet.chosen, row);
    }

    public int choose(int table, int how) throws IndexOutOfBoundsException, IllegalArgumentException, IllegalStateException {
        sheetOf(table);
        if (how < SET || how > WITHOUT) {
            throw new IllegalArgumentException("no such way to choose");
        }
        long found = filterOf(table).holds;
        Sheet sheet = nextSheetOf(table);
        if (how == SET) {
            sheet.chosen = found;
        } else if (how == AND) {
            sheet.chosen &= found;
        } else if (how == OR) {
            sheet.chosen |= found;
        } else {
            sheet.chosen &= ~found;
        }
        return Long.bitCount(sheet.chosen);
    }

    public int turnChoice(int table) throws IndexOutOfBoundsException {
        sheetOf(table);
        Sheet sheet = nextSheetOf(table);
        sheet.chosen = sheet.allRows() & ~sheet.chosen;
        return Long.bitCount(sheet.chosen);
    }

    public int count(int table) throws IndexOutOfBoundsException, IllegalStateException {
        return Long.bitCount(filterOf(table).holds);
    }

    public int reads(int table, boolean isByCounts) throws IndexOutOfBoundsException, IllegalStateException {
        return readsOf(filterOf(table), sheetOf(table).allRows(), isByCounts, 0);
    }

    public int errorKind(int table) throws IndexOutOfBoundsException {
        FilterReader reader = readerOf(table);
        reader.readWhole(text);
        return reader.faultKind;
    }

    public int errorPlace(int table) throws IndexOutOfBoundsException {
        FilterReader reader = readerOf(table);
        reader.readWhole(text);
        return reader.faultPlace;
    }

    public int type(long bytes) throws IllegalStateException {
        if (text.length + bytesIn(bytes) > TEXT_LENGTH) {
            throw new IllegalStateException("the text would be too long");
        }
        text.appendBytes(bytes);
        return text.length;
    }

    public int clearText() {
        int before = text.length;
        text.length = 0;
        return before;
    }

    public int example(int which) throws IllegalArgumentException {
        switch (which) {
            case 0:
                text.replaceBy(FIRST_EXAMPLE);
                break;
            case 1:
                text.replaceBy(SECOND_EXAMPLE);
                break;
            case 2:
                text.replaceBy(THIRD_EXAMPLE);
                break;
            default:
                throw new IllegalArgumentException("no such example");
        }
        return text.length;
    }

    public int join(int left, int column, int right, int other, int how) throws IndexOutOfBoundsException, IllegalArgumentException {
        Sheet leftSheet = sheetWith(left, column);
        Sheet rightSheet = sheetWith(right, other);
        requireSameKind(leftSheet.kindOf(column), rightSheet.kindOf(other));
        if (how < INNER || how > ANTI) {
            throw new IllegalArgumentException("no such join");
        }
        pairs.make(leftSheet, column, rightSheet, other, how);
        return pairs.many;
    }

    public int pairAt(int pair, boolean isRight) throws IndexOutOfBoundsException {
        if (pair < 0 || pair >= pairs.many) {
            throw new IndexOutOfBoundsException("no such pair");
        }
        return pairs.rowOf(pair, isRight);
    }

    public int joinErrors(int left, int column, int right, int other) throws IndexOutOfBoundsException, IllegalArgumentException {
        Sheet leftSheet = sheetWith(left, column);
        Sheet rightSheet = sheetWith(right, other);
        requireSameKind(leftSheet.kindOf(column), rightSheet.kindOf(other));
        return new JoinWays(leftSheet, column, rightSheet, other).pairsNotToldByAll();
    }

    public int group(int table, int column) throws IndexOutOfBoundsException {
        groups.make(sheetWith(table, column), column);
        return groups.many;
    }

    public long groupAt(int group, int what) throws IndexOutOfBoundsException, IllegalArgumentException {
        requireGroup(group);
        switch (what) {
            case 0:
                return groups.valueAt(group);
            case 1:
                return Long.bitCount(groups.rowsIn(group));
            case 2:
                return groups.then.firstOf(groups.rowsIn(group));
            case 3:
                return groups.then.lastOf(groups.rowsIn(group));
            default:
                throw new IllegalArgumentException("nothing known of that");
        }
    }

    public long total(int table, int column, int what) throws IndexOutOfBoundsException, IllegalArgumentException, NoSuchElementException {
        Sheet sheet = sheetWith(table, column);
        return totalOf(sheet, column, sheet.chosen, what);
    }

    public long groupTotal(int group, int column, int what) throws IndexOutOfBoundsException, IllegalArgumentException, NoSuchElementException {
        requireGroup(group);
        requireColumn(groups.then, column);
        return totalOf(groups.then, column, groups.rowsIn(group), what);
    }

    public long running(int table, int column, int place) throws IndexOutOfBoundsException, IllegalArgumentException {
        Sheet sheet = sheetWith(table, column);
        requirePlace(sheet, place);
        requireNumbers(sheet, column);
        return sheet.sumOf(column, sheet.rowsUpTo(place));
    }

    public int rank(int table, int by, int column, int row) throws IndexOutOfBoundsException, NoSuchElementException {
        Sheet sheet = sheetWith(table, by);
        requireColumn(sheet, column);
        requireRow(sheet, row);
        long key = sheet.keyAt(column, row);
        if (key == MISSING) {
            throw new NoSuchElementException("the value is missing");
        }
        return 1 + Long.bitCount(sheet.rowsWith(by, sheet.keyAt(by, row)) & sheet.rowsFromTo(column, LEAST_KEY, key - 1));
    }

    public int previous(int table, int by, int row) throws IndexOutOfBoundsException {
        Sheet sheet = sheetWith(table, by);
        requireRow(sheet, row);
        int place = sheet.placeInOrder(row);
        return sheet.lastOf(sheet.rowsWith(by, sheet.keyAt(by, row)) & sheet.rowsUpTo(place - 1));
    }

    public int between(int table, int column, long from, long to) throws IndexOutOfBoundsException, IllegalArgumentException {
        Sheet sheet = sheetWith(table, column);
        int kind = sheet.kindOf(column);
        requireValue(kind, from);
        requireValue(kind, to);
        return Long.bitCount(sheet.rowsFromTo(column, keyOf(kind, from), keyOf(kind, to)));
    }

    public long nearest(int table, int column, long value, boolean isBelow) throws IndexOutOfBoundsException, IllegalArgumentException, NoSuchElementException {
        Sheet sheet = sheetWith(table, column);
        int kind = sheet.kindOf(column);
        requireValue(kind, value);
        long key = sheet.nearestKey(column, keyOf(kind, value), isBelow);
        if (key == MISSING) {
            throw new NoSuchElementException("no value on that side");
        }
        return toldOf(kind, key);
    }

    public int alike(int table, int other, int what) throws IndexOutOfBoundsException, IllegalArgumentException {
        Sheet one = sheetOf(table);
        Sheet two = sheetOf(other);
        if (!one.hasKindsOf(two)) {
            throw new IllegalArgumentException("the columns are not of the same kinds");
        }
        switch (what) {
            case 0:
                return one.rowsLeftBy(two);
            case 1:
                return Long.bitCount(one.differentRows()) + two.differentRowsOnlyHere(one);
            case 2:
                return Long.bitCount(one.differentRows()) - one.differentRowsOnlyHere(two);
            case 3:
                return one.differentRowsOnlyHere(two);
            default:
                throw new IllegalArgumentException("no such comparison");
        }
    }

    public int errors(int table) throws IndexOutOfBoundsException {
        return checks.failuresOf(sheetOf(table));
    }

    public double meanOf(int table, int column) throws IndexOutOfBoundsException, IllegalArgumentException {
        Sheet sheet = sheetWith(table, column);
        requireNumbers(sheet, column);
        int many = Long.bitCount(sheet.chosen & sheet.knownRows(column));
        return many == 0 ? 0.0 : (double) sheet.sumOf(column, sheet.chosen) / (double) many;
    }

    public float chosenShare(int table) throws IndexOutOfBoundsException {
        Sheet sheet = sheetOf(table);
        return sheet.rows == 0 ? 0.0f : (float) Long.bitCount(sheet.chosen) / (float) sheet.rows;
    }

    private Sheet sheetOf(int table) throws IndexOutOfBoundsException {
        Sheet sheet = history.sheetIn(history.now, table);
        if (sheet == null) {
            throw new IndexOutOfBoundsException("no such table");
        }
        return sheet;
    }

    private Sheet sheetWith(int table, int column) throws IndexOutOfBoundsException {
        Sheet sheet = sheetOf(table);
        requireColumn(sheet, column);
        return sheet;
    }

    /** Begins a change: makes the next version, and gives the table in it; the one before stays as it is. */
    private Sheet nextSheetOf(int table) throws IndexOutOfBoundsException {
        history.makeNextFrom(history.now);
        return sheetOf(table);
    }

    private FilterReader readerOf(int table) throws IndexOutOfBoundsException {
        return new FilterReader(tokens, sheetOf(table));
    }

    private Node filterOf(int table) throws IndexOutOfBoundsException, IllegalStateException {
        Node filter = readerOf(table).readWhole(text);
        if (filter == null) {
            throw new IllegalStateException("the text has an error");
        }
        return filter;
    }

    private void requireGroup(int group) throws IndexOutOfBoundsException {
        if (group < 0 || group >= groups.many) {
            throw new IndexOutOfBoundsException("no such group");
        }
    }

    private static void requireColumn(Sheet sheet, int column) throws IndexOutOfBoundsException {
        if (!sheet.hasColumn(column)) {
            throw new IndexOutOfBoundsException("no such column");
        }
    }

    private static void requireRow(Sheet sheet, int row) throws IndexOutOfBoundsException {
        if (!sheet.hasRow(row)) {
            throw new IndexOutOfBoundsException("no such row");
        }
    }

    private static void requirePlace(Sheet sheet, int place) throws IndexOutOfBoundsException {
        if (!sheet.hasRow(place)) {
            throw new IndexOutOfBoundsException("no such place");
        }
    }

    private static void requireValue(int kind, long value) throws IllegalArgumentException {
        if (kind == TEXT ? !isWord(value) : !isNumber(value)) {
            throw new IllegalArgumentException("no value of this kind");
        }
    }

    private static void requireNumbers(Sheet sheet, int column) throws IllegalArgumentException {
        if (sheet.kindOf(column) != NUMBER) {
            throw new IllegalArgumentException("a column of texts");
        }
    }

    private static void requireSameKind(int kind, int other) throws IllegalArgumentException {
        if (kind != other) {
            throw new IllegalArgumentException("columns of different kinds");
        }
    }

    private static boolean isNumber(long value) {
        return value >= -LARGEST && value <= LARGEST;
    }

    private static boolean isWord(long value) {
        if (value <= 0 || value >>> 8 * LETTERS != 0) {
            return false;
        }
        for (int i = 0; i < LETTERS && value >>> 8 * i != 0; i++) {
            if (!isLetter((int) (value >>> 8 * i & 255))) {
                return false;
            }
        }
        return true;
    }

    private static boolean isLetter(int sign) {
        return sign >= 'a' && sign <= 'z';
    }

    private static boolean isDigit(int sign) {
        return sign >= '0' && sign <= '9';
    }

    /** Texts are kept with their first letter in the highest of seven bytes, so that keys compare as texts do. */
    private static long keyOf(int kind, long value) {
        if (kind != TEXT || value == MISSING) {
            return value;
        }
        long key = value;
        for (int i = 1; i < LETTERS && key >>> 8 * (LETTERS - 1) == 0; i++) {
            key <<= 8;
        }
        return key;
    }

    private static long toldOf(int kind, long key) {
        if (kind != TEXT || key == MISSING) {
            return key;
        }
        long value = key;
        for (int i = 1; i < LETTERS && (value & 255) == 0; i++) {
            value >>>= 8;
        }
        return value;
    }

    private static boolean isAhead(long key, long other, boolean isDown, boolean isMissingFirst) {
        if (key == other) {
            return false;
        }
        if (key == MISSING) {
            return isMissingFirst;
        }
        if (other == MISSING) {
            return !isMissingFirst;
        }
        return isDown ? key > other : key < other;
    }

    private static boolean holdsRow(long rows, int row) {
        return row >= 0 && row < ROWS && (rows >>> row & 1) != 0;
    }

    private static int bytesIn(long bytes) {
        int many = 0;
        for (int shift = 56; shift >= 0; shift -= 8) {
            many += (bytes >>> shift & 255) == 0 ? 0 : 1;
        }
        return many;
    }

    private static long totalOf(Sheet sheet, int column, long rows, int what) throws IllegalArgumentException, NoSuchElementException {
        int kind = sheet.kindOf(column);
        if (what < HOW_MANY || what > DIFFERENT || what == SUM && kind == TEXT) {
            throw new IllegalArgumentException("no such total");
        }
        if (what == HOW_MANY) {
            return Long.bitCount(rows & sheet.knownRows(column));
        }
        if (what == SUM) {
            return sheet.sumOf(column, rows);
        }
        int[] rising = sheet.risingRows(column, rows);
        if (what == DIFFERENT) {
            return sheet.differentKeys(column, rising);
        }
        if (rising.length == 0) {
            throw new NoSuchElementException("no values");
        }
        int last = rising.length - 1;
        return sheet.valueOf(column, rising[what == LEAST ? 0 : what == GREATEST ? last : last / 2]);
    }

    private static int readsOf(Node node, long asked, boolean isByCounts, int depth) {
        if (node.form == TEST || depth > TREE_DEPTH) {
            return Long.bitCount(asked);
        }
        int reads = 0;
        long left = asked;
        for (Node inner = isByCounts ? node.firstByCounts : node.firstTold; inner != null;
                inner = isByCounts ? inner.nextByCounts : inner.nextTold) {
            reads += readsOf(inner, left, isByCounts, depth + 1);
            left &= node.form == PART ? inner.holds : ~inner.holds;
        }
        return reads;
    }

    /** One table. A set of rows is a long with a bit for each of its rows. */
    private static final class Sheet {
        private final int[] kinds = new int[COLUMNS];
        private final long[] keys = new long[COLUMNS * ROWS];
        private final int[] order = new int[ROWS];
        private int columns = 0;
        private int rows = 0;
        private long chosen = 0;

        void copyFrom(Sheet other) {
            System.arraycopy(other.kinds, 0, kinds, 0, COLUMNS);
            System.arraycopy(other.keys, 0, keys, 0, COLUMNS * ROWS);
            System.arraycopy(other.order, 0, order, 0, ROWS);
            columns = other.columns;
            rows = other.rows;
            chosen = other.chosen;
        }

        boolean hasColumn(int column) {
            return column >= 0 && column < columns;
        }

        boolean hasRow(int row) {
            return row >= 0 && row < rows;
        }

        boolean hasKindsOf(Sheet other) {
            boolean isSame = columns == other.columns;
            for (int column = 0; column < columns && isSame; column++) {
                isSame = kindOf(column) == other.kindOf(column);
            }
            return isSame;
        }

        int kindOf(int column) {
            return hasColumn(column) ? kinds[column] : NONE;
        }

        long keyAt(int column, int row) {
            return column >= 0 && column < columns && row >= 0 && row < rows ? keys[column * ROWS + row] : MISSING;
        }

        void putKey(int column, int row, long key) {
            if (hasColumn(column) && hasRow(row)) {
                keys[column * ROWS + row] = key;
            }
        }

        long valueOf(int column, int row) {
            return toldOf(kindOf(column), keyAt(column, row));
        }

        int missingValues() {
            int many = 0;
            for (int column = 0; column < columns; column++) {
                many += Long.bitCount(rowsWith(column, MISSING));
            }
            return many;
        }

        int appendColumn(int kind) {
            if (columns >= COLUMNS) {
                return NONE;
            }
            int column = columns;
            kinds[column] = kind;
            columns++;
            for (int row = 0; row < rows; row++) {
                putKey(column, row, MISSING);
            }
            return column;
        }

        int appendRow() {
            if (rows >= ROWS) {
                return NONE;
            }
            int row = rows;
            order[row] = row;
            rows++;
            chosen |= 1L << row;
            for (int column = 0; column < columns; column++) {
                putKey(column, row, MISSING);
            }
            return row;
        }

        void dropRow(int row) {
            if (!hasRow(row)) {
                return;
            }
            for (int column = 0; column < columns; column++) {
                for (int next = row + 1; next < rows; next++) {
                    putKey(column, next - 1, keyAt(column, next));
                }
            }
            dropFromOrder(row);
            long ahead = (1L << row) - 1;
            chosen = chosen & ahead | chosen >>> 1 & ~ahead;
            rows--;
        }

        private void dropFromOrder(int row) {
            int kept = 0;
            for (int place = 0; place < rows; place++) {
                int own = order[place];
                if (own != row) {
                    order[kept] = own > row ? own - 1 : own;
                    kept++;
                }
            }
        }

        int rowInOrder(int place) {
            return hasRow(place) ? order[place] : NONE;
        }

        int placeInOrder(int row) {
            for (int place = 0; place < rows; place++) {
                if (order[place] == row) {
                    return place;
                }
            }
            return NONE;
        }

        int placesUnlike(Sheet other) {
            int many = 0;
            for (int place = 0; place < rows; place++) {
                many += rowInOrder(place) == other.rowInOrder(place) ? 0 : 1;
            }
            return many;
        }

        /** Sorts by insertion, since that leaves rows with the same value as they stood. */
        void orderBy(int column, boolean isDown, boolean isMissingFirst) {
            for (int place = 1; place < rows; place++) {
                int row = order[place];
                long key = keyAt(column, row);
                int gap = place;
                while (gap > 0 && isAhead(key, keyAt(column, order[gap - 1]), isDown, isMissingFirst)) {
                    order[gap] = order[gap - 1];
                    gap--;
                }
                order[gap] = row;
            }
        }

        int firstOf(long set) {
            for (int place = 0; place < rows; place++) {
                if (holdsRow(set, order[place])) {
                    return order[place];
                }
            }
            return NONE;
        }

        int lastOf(long set) {
            for (int place = rows - 1; place >= 0; place--) {
                if (holdsRow(set, order[place])) {
                    return order[place];
                }
            }
            return NONE;
        }

        long rowsUpTo(int place) {
            long found = 0;
            for (int ahead = 0; ahead <= place && ahead < rows; ahead++) {
                found |= 1L << order[ahead];
            }
            return found;
        }

        long allRows() {
            return (1L << rows) - 1;
        }

        long knownRows(int column) {
            return rowsFromTo(column, LEAST_KEY, GREATEST_KEY);
        }

        /** The key may be MISSING: then the rows in which the value is missing. */
        long rowsWith(int column, long key) {
            return rowsFromTo(column, key, key);
        }

        /** Since MISSING is less than each key, what is missing is found from MISSING alone. */
        long rowsFromTo(int column, long from, long to) {
            long found = 0;
            for (int row = 0; row < rows; row++) {
                long key = keyAt(column, row);
                if (key >= from && key <= to) {
                    found |= 1L << row;
                }
            }
            return found;
        }

        long nearestKey(int column, long key, boolean isBelow) {
            long best = MISSING;
            for (int row = 0; row < rows; row++) {
                long own = keyAt(column, row);
                boolean isFit = own != MISSING && (isBelow ? own <= key : own >= key);
                if (isFit && (best == MISSING || (isBelow ? own > best : own < best))) {
                    best = own;
                }
            }
            return best;
        }

        long sumOf(int column, long set) {
            long sum = 0;
            for (int row = 0; row < rows; row++) {
                long key = keyAt(column, row);
                if (key != MISSING && holdsRow(set, row)) {
                    sum += key;
                }
            }
            return sum;
        }

        /** The rows of a set in which the value is not missing, the least value first. */
        int[] risingRows(int column, long set) {
            long known = set & knownRows(column);
            int[] rising = new int[Long.bitCount(known)];
            int filled = 0;
            for (int row = 0; row < rows && filled < rising.length; row++) {
                if (holdsRow(known, row)) {
                    long key = keyAt(column, row);
                    int gap = filled;
                    while (gap > 0 && keyAt(column, rising[gap - 1]) > key) {
                        rising[gap] = rising[gap - 1];
                        gap--;
                    }
                    rising[gap] = row;
                    filled++;
                }
            }
            return rising;
        }

        int differentKeys(int column, int[] rising) {
            int many = 0;
            for (int i = 0; i < rising.length; i++) {
                if (i == 0 || keyAt(column, rising[i]) != keyAt(column, rising[i - 1])) {
                    many++;
                }
            }
            return many;
        }

        private boolean isAlike(int row, Sheet other, int otherRow) {
            for (int column = 0; column < columns; column++) {
                if (keyAt(column, row) != other.keyAt(column, otherRow)) {
                    return false;
                }
            }
            return true;
        }

        private long chosenAlike(int row, Sheet other) {
            long found = 0;
            for (int otherRow = 0; otherRow < other.rows; otherRow++) {
                if (holdsRow(other.chosen, otherRow) && isAlike(row, other, otherRow)) {
                    found |= 1L << otherRow;
                }
            }
            return found;
        }

        /** Of the chosen rows that are alike, the one with the least number stands for all. */
        long differentRows() {
            long found = 0;
            for (int row = 0; row < rows; row++) {
                if (holdsRow(chosen, row) && (chosenAlike(row, this) & (1L << row) - 1) == 0) {
                    found |= 1L << row;
                }
            }
            return found;
        }

        int differentRowsOnlyHere(Sheet other) {
            long different = differentRows();
            int many = 0;
            for (int row = 0; row < rows; row++) {
                if (holdsRow(different, row) && chosenAlike(row, other) == 0) {
                    many++;
                }
            }
            return many;
        }

        int rowsLeftBy(Sheet other) {
            long left = chosen;
            for (int otherRow = 0; otherRow < other.rows; otherRow++) {
                if (holdsRow(other.chosen, otherRow)) {
                    long takeable = left & other.chosenAlike(otherRow, this);
                    left &= ~(takeable & -takeable);
                }
            }
            return Long.bitCount(left);
        }
    }

    /** The kept versions, each with all tables, in a ring: the next one takes the place of the oldest one. */
    private static final class History {
        private final Sheet[] sheets = new Sheet[VERSIONS * TABLES];
        private int now = 0;

        History() {
            for (int i = 0; i < sheets.length; i++) {
                sheets[i] = new Sheet();
            }
        }

        boolean keeps(int version) {
            return version >= 0 && version <= now && version > now - VERSIONS;
        }

        Sheet sheetIn(int version, int table) {
            if (version < 0 || table < 0 || table >= TABLES) {
                return null;
            }
            return sheets[version % VERSIONS * TABLES + table];
        }

        void makeNextFrom(int version) {
            for (int table = 0; table < TABLES; table++) {
                Sheet from = sheetIn(version, table);
                Sheet to = sheetIn(now + 1, table);
                if (from != null && to != null) {
                    to.copyFrom(from);
                }
            }
            now++;
        }
    }

    /** The text that can be a filter: bytes from 1 to 255. */
    private static final class FilterText {
        private final int[] bytes = new int[TEXT_LENGTH];
        private int length = 0;

        int byteAt(int place) {
            return place >= 0 && place < length ? bytes[place] : END;
        }

        private void append(int sign) {
            if (sign != END && length < TEXT_LENGTH) {
                bytes[length] = sign;
                length++;
            }
        }

        void appendBytes(long signs) {
            for (int shift = 56; shift >= 0; shift -= 8) {
                append((int) (signs >>> shift & 255));
            }
        }

        void replaceBy(String signs) {
            length = 0;
            for (int i = 0; i < signs.length(); i++) {
                append(signs.charAt(i));
            }
        }
    }

    /** A test, a part or a filter (also one in brackets), with the rows of the table for which it holds. */
    private static final class Node {
        private final int form;
        private long holds;
        private Node firstTold = null;
        private Node lastTold = null;
        private Node nextTold = null;
        private Node firstByCounts = null;
        private Node nextByCounts = null;

        Node(int form, long holds) {
            this.form = form;
            this.holds = holds;
        }

        void turn(long allRows) {
            holds = allRows & ~holds;
        }

        void put(Node inner) {
            holds = form == PART ? holds & inner.holds : holds | inner.holds;
            if (lastTold == null) {
                firstTold = inner;
            } else {
                lastTold.nextTold = inner;
            }
            lastTold = inner;
            putByCounts(inner);
        }

        private void putByCounts(Node inner) {
            Node ahead = null;
            for (Node other = firstByCounts; other != null && !isFirst(inner, other); other = other.nextByCounts) {
                ahead = other;
            }
            if (ahead == null) {
                inner.nextByCounts = firstByCounts;
                firstByCounts = inner;
            } else {
                inner.nextByCounts = ahead.nextByCounts;
                ahead.nextByCounts = inner;
            }
        }

        private boolean isFirst(Node later, Node earlier) {
            int count = Long.bitCount(later.holds);
            int otherCount = Long.bitCount(earlier.holds);
            return form == PART ? count < otherCount : count > otherCount;
        }
    }

    /** The text in words, numbers and signs, with END behind them; what begins nothing is a NOTHING. */
    private static final class Tokens {
        private final int[] forms = new int[TEXT_LENGTH + 1];
        private final int[] places = new int[TEXT_LENGTH + 1];
        private final long[] values = new long[TEXT_LENGTH + 1];
        private int many = 0;

        void readFrom(FilterText text) {
            many = 0;
            int at = 0;
            while (at < text.length) {
                int length = text.byteAt(at) == ' ' ? 1 : readToken(text, at);
                at += Math.max(length, 1);
            }
            put(END, text.length, NONE);
        }

        private int readToken(FilterText text, int at) {
            int sign = text.byteAt(at);
            int next = text.byteAt(at + 1);
            switch (sign) {
                case '|': case '&': case '!': case '(': case ')': case '<': case '>': case '=':
                    put(sign, at, NONE);
                    return 1;
                case '#':
                    put(COLUMN, at, isDigit(next) ? next - '0' : NONE);
                    return isDigit(next) ? 2 : 1;
                default:
                    break;
            }
            if (isLetter(sign)) {
                return readWord(text, at);
            }
            if (isDigit(sign) || sign == '-' && isDigit(next)) {
                return readNumber(text, at);
            }
            put(NOTHING, at, NONE);
            return 1;
        }

        /** A word that is too long has MISSING as its value. */
        private int readWord(FilterText text, int start) {
            long word = 0;
            int at = start;
            while (at < text.length && isLetter(text.byteAt(at))) {
                word = word << 8 | text.byteAt(at);
                at++;
            }
            put(WORD, start, at - start > LETTERS ? MISSING : word);
            return at - start;
        }

        /** A number out of range has MISSING as its value; it stops growing there, since it may have many digits. */
        private int readNumber(FilterText text, int start) {
            boolean isBelowZero = text.byteAt(start) == '-';
            long number = 0;
            int at = isBelowZero ? start + 1 : start;
            while (at < text.length && isDigit(text.byteAt(at))) {
                number = Math.min(number * 10 + text.byteAt(at) - '0', LARGEST + 1);
                at++;
            }
            put(NUMERAL, start, number > LARGEST ? MISSING : isBelowZero ? -number : number);
            return at - start;
        }

        private void put(int form, int place, long value) {
            if (many <= TEXT_LENGTH) {
                forms[many] = form;
                places[many] = place;
                values[many] = value;
                many++;
            }
        }

        int formAt(int token) {
            return token >= 0 && token < many ? forms[token] : END;
        }

        int placeAt(int token) {
            return token >= 0 && token < many ? places[token] : NONE;
        }

        long valueAt(int token) {
            return token >= 0 && token < many ? values[token] : NONE;
        }
    }

    /** Reads the text as a filter for a table, up to the first error; what it reads is null behind an error. */
    private static final class FilterReader {
        private final Tokens tokens;
        private final Sheet sheet;
        private final long[] keys = new long[LISTED];
        private int many = 0;
        private int at = 0;
        private int faultKind = 0;
        private int faultPlace = NONE;

        FilterReader(Tokens tokens, Sheet sheet) {
            this.tokens = tokens;
            this.sheet = sheet;
        }

        Node readWhole(FilterText text) {
            tokens.readFrom(text);
            Node filter = readFilter(0);
            if (filter != null && tokens.formAt(at) != END) {
                return fail(MISPLACED, tokens.placeAt(at));
            }
            return filter;
        }

        private Node fail(int kind, int place) {
            faultKind = kind;
            faultPlace = place;
            return null;
        }

        private boolean takes(int sign) {
            if (tokens.formAt(at) != sign) {
                return false;
            }
            at++;
            return true;
        }

        private Node readFilter(int open) {
            Node filter = new Node(FILTER, 0);
            boolean isMore = true;
            for (int i = 0; i < TEXT_LENGTH && isMore; i++) {
                Node part = readPart(open);
                if (part == null) {
                    return null;
                }
                filter.put(part);
                isMore = takes('|');
            }
            return filter;
        }

        private Node readPart(int open) {
            Node part = new Node(PART, sheet.allRows());
            boolean isMore = true;
            for (int i = 0; i < TEXT_LENGTH && isMore; i++) {
                Node piece = readPiece(open);
                if (piece == null) {
                    return null;
                }
                part.put(piece);
                isMore = takes('&');
            }
            return part;
        }

        private Node readPiece(int open) {
            int turns = 0;
            while (turns < TURNS && takes('!')) {
                turns++;
            }
            Node piece;
            switch (tokens.formAt(at)) {
                case '!':
                    return fail(BEYOND, tokens.placeAt(at));
                case '(':
                    piece = readBrackets(open);
                    break;
                case COLUMN:
                    piece = readTest();
                    break;
                default:
                    return fail(MISPLACED, tokens.placeAt(at));
            }
            if (piece != null && turns % 2 == 1) {
                piece.turn(sheet.allRows());
            }
            return piece;
        }

        private Node readBrackets(int open) {
            if (open >= OPEN_BRACKETS) {
                return fail(BEYOND, tokens.placeAt(at));
            }
            at++;
            Node filter = readFilter(open + 1);
            if (filter != null && !takes(')')) {
                return fail(MISPLACED, tokens.placeAt(at));
            }
            return filter;
        }

        private Node readTest() {
            int column = (int) tokens.valueAt(at);
            if (column == NONE) {
                return fail(MISPLACED, tokens.placeAt(at) + 1);
            }
            if (!sheet.hasColumn(column)) {
                return fail(BEYOND, tokens.placeAt(at));
            }
            int asks = askedBy(at + 1);
            if (asks == NONE) {
                return fail(MISPLACED, tokens.placeAt(at + 1));
            }
            at += 2;
            return readValues(asks, sheet.kindOf(column)) ? new Node(TEST, rowsOfTest(column, asks)) : null;
        }

        /** What a test asks: its sign, UP_TO, LIST or LACKS; NONE if the token can't stand behind a column. */
        private int askedBy(int token) {
            int form = tokens.formAt(token);
            if (form == '<' || form == '>' || form == '=') {
                return form;
            }
            long word = form == WORD ? tokens.valueAt(token) : NONE;
            return word == WORD_TO ? UP_TO : word == WORD_IN ? LIST : word == WORD_MISSING ? LACKS : NONE;
        }

        private boolean readValues(int asks, int kind) {
            many = 0;
            int needed = asks == LACKS ? 0 : asks == UP_TO ? 2 : 1;
            boolean isRead = true;
            for (int i = 0; i <= LISTED && isRead && (i < needed || asks == LIST && isValueNext()); i++) {
                isRead = readValue(kind);
            }
            return isRead;
        }

        private boolean isValueNext() {
            int form = tokens.formAt(at);
            return form == NUMERAL || form == WORD;
        }

        private boolean readValue(int kind) {
            int form = tokens.formAt(at);
            int place = tokens.placeAt(at);
            long value = tokens.valueAt(at);
            if (form != WORD && form != NUMERAL) {
                fail(MISPLACED, place);
                return false;
            }
            if (value == MISSING || many >= LISTED) {
                fail(BEYOND, place);
                return false;
            }
            if ((form == WORD) != (kind == TEXT)) {
                fail(OTHER_KIND, place);
                return false;
            }
            keys[many] = keyOf(kind, value);
            many++;
            at++;
            return true;
        }

        private long rowsOfTest(int column, int asks) {
            switch (asks) {
                case '<':
                    return sheet.rowsFromTo(column, LEAST_KEY, keys[0] - 1);
                case '>':
                    return sheet.rowsFromTo(column, keys[0] + 1, GREATEST_KEY);
                case UP_TO:
                    return sheet.rowsFromTo(column, keys[0], keys[1]);
                case LACKS:
                    return sheet.rowsFromTo(column, MISSING, MISSING);
                default:
                    break;
            }
            long found = 0;
            for (int i = 0; i < many && i < LISTED; i++) {
                found |= sheet.rowsFromTo(column, keys[i], keys[i]);
            }
            return found;
        }
    }

    /** The pairs of the latest join. */
    private static final class Pairs {
        private final int[] lefts = new int[ROWS * ROWS];
        private final int[] rights = new int[ROWS * ROWS];
        private int many = 0;

        void make(Sheet left, int column, Sheet right, int other, int how) {
            many = 0;
            for (int row = 0; row < left.rows; row++) {
                if (holdsRow(left.chosen, row)) {
                    long key = left.keyAt(column, row);
                    long partners = key == MISSING ? 0 : right.chosen & right.rowsWith(other, key);
                    putRow(row, partners, how);
                }
            }
        }

        private void putRow(int row, long partners, int how) {
            if (partners == 0 && how != INNER) {
                put(row, NONE);
            }
            for (int partner = 0; partner < ROWS && how != ANTI; partner++) {
                if (holdsRow(partners, partner)) {
                    put(row, partner);
                }
            }
        }

        private void put(int left, int right) {
            if (many < ROWS * ROWS) {
                lefts[many] = left;
                rights[many] = right;
                many++;
            }
        }

        int rowOf(int pair, boolean isRight) {
            if (pair < 0 || pair >= many) {
                return NONE;
            }
            return isRight ? rights[pair] : lefts[pair];
        }
    }

    /** An INNER join in three ways; each tells for each left row the set of the right rows. */
    private static final class JoinWays {
        private final Sheet left;
        private final int column;
        private final Sheet right;
        private final int other;

        JoinWays(Sheet left, int column, Sheet right, int other) {
            this.left = left;
            this.column = column;
            this.right = right;
            this.other = other;
        }

        int pairsNotToldByAll() {
            int[] rightRows = right.risingRows(other, right.chosen);
            long[] merged = byMerging(left.risingRows(column, left.chosen), rightRows);
            long[] found = byLookingUp(rightRows);
            long[] tried = byTrying();
            int many = 0;
            for (int row = 0; row < ROWS; row++) {
                long some = merged[row] | found[row] | tried[row];
                many += Long.bitCount(some & ~(merged[row] & found[row] & tried[row]));
            }
            return many;
        }

        private long[] byMerging(int[] leftRows, int[] rightRows) {
            long[] told = new long[ROWS];
            int place = 0;
            for (int i = 0; i < leftRows.length; i++) {
                int row = leftRows[i];
                long key = left.keyAt(column, row);
                while (place < rightRows.length && right.keyAt(other, rightRows[place]) < key) {
                    place++;
                }
                if (left.hasRow(row)) {
                    told[row] = rowsWithKeyFrom(rightRows, place, key);
                }
            }
            return told;
        }

        private long[] byLookingUp(int[] rightRows) {
            long[] told = new long[ROWS];
            for (int row = 0; row < left.rows; row++) {
                long key = left.keyAt(column, row);
                if (key != MISSING && holdsRow(left.chosen, row)) {
                    told[row] = rowsWithKeyFrom(rightRows, firstPlaceOf(rightRows, key), key);
                }
            }
            return told;
        }

        private int firstPlaceOf(int[] rightRows, long key) {
            int from = 0;
            int to = rightRows.length;
            for (int i = 0; i < ROWS && from < to; i++) {
                int middle = (from + to) / 2;
                if (right.keyAt(other, rightRows[middle]) < key) {
                    from = middle + 1;
                } else {
                    to = middle;
                }
            }
            return from;
        }

        private long rowsWithKeyFrom(int[] rightRows, int place, long key) {
            long found = 0;
            for (int i = Math.max(place, 0); i < rightRows.length && right.keyAt(other, rightRows[i]) == key; i++) {
                found |= 1L << rightRows[i];
            }
            return found;
        }

        private long[] byTrying() {
            long[] told = new long[ROWS];
            for (int row = 0; row < left.rows; row++) {
                long key = left.keyAt(column, row);
                for (int partner = 0; partner < right.rows; partner++) {
                    if (key != MISSING && key == right.keyAt(other, partner)
                            && holdsRow(left.chosen, row) && holdsRow(right.chosen, partner)) {
                        told[row] |= 1L << partner;
                    }
                }
            }
            return told;
        }
    }

    /** The latest groups, with the table as it was when they were made. */
    private static final class Groups {
        private final Sheet then = new Sheet();
        private final long[] keys = new long[ROWS];
        private final long[] members = new long[ROWS];
        private int column = 0;
        private int many = 0;

        void make(Sheet sheet, int byColumn) {
            then.copyFrom(sheet);
            column = byColumn;
            many = 0;
            for (int row = 0; row < then.rows; row++) {
                if (holdsRow(then.chosen, row)) {
                    put(row);
                }
            }
        }

        private void put(int row) {
            long key = then.keyAt(column, row);
            int group = 0;
            while (group < many && isAhead(keys[group], key, false, false)) {
                group++;
            }
            if (group == many || keys[group] != key) {
                open(group, key);
            }
            if (group < many) {
                members[group] |= 1L << row;
            }
        }

        private void open(int group, long key) {
            if (many >= ROWS) {
                return;
            }
            for (int i = many; i > group; i--) {
                keys[i] = keys[i - 1];
                members[i] = members[i - 1];
            }
            keys[group] = key;
            members[group] = 0;
            many++;
        }

        long keyOfGroup(int group) {
            return group >= 0 && group < many ? keys[group] : MISSING;
        }

        long valueAt(int group) {
            return toldOf(then.kindOf(column), keyOfGroup(group));
        }

        long rowsIn(int group) {
            return group >= 0 && group < many ? members[group] : 0;
        }
    }

    /** The checks of errors(), on copies, so that the table stays as it is. */
    private static final class Checks {
        private final Sheet copy = new Sheet();
        private final Groups parted = new Groups();
        private final long[] upTo = new long[ROWS];

        int failuresOf(Sheet sheet) {
            int failures = 0;
            for (int column = 0; column < sheet.columns; column++) {
                for (int other = 0; other < sheet.columns; other++) {
                    if (other != column && !isInBothOrders(sheet, column, other)) {
                        failures++;
                    }
                }
                failures += groupFailures(sheet, column) + rangeFailures(sheet, column);
            }
            return failures;
        }

        private boolean isInBothOrders(Sheet sheet, int first, int second) {
            copy.copyFrom(sheet);
            copy.orderBy(first, false, false);
            copy.orderBy(second, false, false);
            for (int place = 1; place < copy.rows; place++) {
                if (!standsAhead(sheet, first, second, copy.rowInOrder(place - 1), copy.rowInOrder(place))) {
                    return false;
                }
            }
            return copy.rowsUpTo(copy.rows - 1) == sheet.allRows();
        }

        /** By the later sort first, then by the earlier one, then as the rows stood. */
        private boolean standsAhead(Sheet sheet, int first, int second, int row, int next) {
            long key = sheet.keyAt(second, row);
            long nextKey = sheet.keyAt(second, next);
            if (key == nextKey) {
                key = sheet.keyAt(first, row);
                nextKey = sheet.keyAt(first, next);
            }
            if (key == nextKey) {
                return sheet.placeInOrder(row) < sheet.placeInOrder(next);
            }
            return isAhead(key, nextKey, false, false);
        }

        private int groupFailures(Sheet sheet, int column) {
            parted.make(sheet, column);
            int members = 0;
            for (int group = 0; group < parted.many; group++) {
                members += Long.bitCount(parted.rowsIn(group));
            }
            int failures = members == Long.bitCount(sheet.chosen) ? 0 : 1;
            for (int summed = 0; summed < sheet.columns; summed++) {
                if (sheet.kindOf(summed) == NUMBER && sumOfGroups(summed) != sheet.sumOf(summed, sheet.chosen)) {
                    failures++;
                }
            }
            return failures;
        }

        private long sumOfGroups(int column) {
            long sum = 0;
            for (int group = 0; group < parted.many; group++) {
                sum += parted.then.sumOf(column, parted.rowsIn(group));
            }
            return sum;
        }

        private int rangeFailures(Sheet sheet, int column) {
            copy.copyFrom(sheet);
            copy.chosen = copy.allRows();
            parted.make(copy, column);
            for (int group = 0; group < parted.many && group < ROWS; group++) {
                upTo[group] = sheet.rowsFromTo(column, LEAST_KEY, parted.keyOfGroup(group));
            }
            int failures = 0;
            for (int group = 0; group < parted.many; group++) {
                if (parted.keyOfGroup(group) != MISSING) {
                    failures += failuresFrom(group, sheet.rowsFromTo(column, parted.keyOfGroup(group), GREATEST_KEY));
                }
            }
            return failures;
        }

        /** Compares the rows from the value of a group to that of each group with what the groups between hold. */
        private int failuresFrom(int from, long notLess) {
            int failures = 0;
            int members = 0;
            for (int to = 0; to < parted.many && to < ROWS && parted.keyOfGroup(to) != MISSING; to++) {
                members += to < from ? 0 : Long.bitCount(parted.rowsIn(to));
                failures += Long.bitCount(notLess & upTo[to]) == members ? 0 : 1;
            }
            return failures;
        }
    }
}
