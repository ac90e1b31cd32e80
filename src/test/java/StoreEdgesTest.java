/** A test for each sentence of the promises 1 to 24 (the store, its text and its choice) that names a boundary case. */
public final class StoreEdgesTest extends Kit {
    public static void main(String[] args) throws IllegalAccessException {
        runSentences(StoreEdgesTest.class);
    }

    // ---- 1. A new object

    @Sentence(promise = 1, says = "Creates a store with three tables without columns and rows, an empty text, no pairs and no groups.")
    private static void aNewStoreIsEmpty() {
        ColumnVault vault = new ColumnVault();
        for (int table = 0; table < 3; table++) {
            for (int what = 0; what <= 3; what++) {
                is(0, vault.size(table, what));
            }
            int empty = table;
            index(vault, () -> vault.kind(empty, 0));
            index(vault, () -> vault.rowAt(empty, 0));
            index(vault, () -> vault.isChosen(empty, 0));
            is(1, vault.errorKind(table));
            is(0, vault.errorPlace(table));
            is(0, vault.errors(table));
        }
        index(vault, () -> vault.size(3, 0));
        index(vault, () -> vault.pairAt(0, false));
        index(vault, () -> vault.pairAt(0, true));
        index(vault, () -> vault.groupAt(0, 0));
        index(vault, () -> vault.groupTotal(0, 0, 0));
        is(0, vault.version());
        is(0, vault.type(0));
        is(0, vault.clearText());
    }

    @Sentence(promise = 1, says = "Creates a store with three tables without columns and rows, an empty text, no pairs and no groups.")
    private static void storesDoNotShareAnything() {
        ColumnVault first = fiveRows();
        first.example(0);
        first.group(0, 0);
        first.join(0, 0, 0, 0, ColumnVault.INNER);
        ColumnVault second = new ColumnVault();
        is(0, second.size(0, 0));
        is(0, second.clearText());
        is(0, second.version());
        index(second, () -> second.groupAt(0, 0));
        index(second, () -> second.pairAt(0, true));
        second.addColumn(0, TEXT);
        is(NUMBER, first.kind(0, 0));
        is(31, first.clearText());
    }

    // ---- 2. addColumn

    @Sentence(promise = 2, says = "Adds a column to a table; what is in it is missing in all rows.")
    private static void aNewColumnIsMissingInAllRows() {
        ColumnVault vault = new ColumnVault();
        for (int row = 0; row < 40; row++) {
            vault.addRow(1);
        }
        vault.addColumn(1, TEXT);
        vault.addColumn(1, NUMBER);
        is(80, vault.size(1, 3));
        is(MISSING, vault.get(1, 0, 0));
        is(MISSING, vault.get(1, 39, 1));
        is(1, vault.group(1, 1));
    }

    @Sentence(promise = 2, says = "Adds a column to a table; what is in it is missing in all rows.")
    private static void whatAnotherVersionHadInTheColumnDoesNotComeBack() {
        ColumnVault vault = new ColumnVault();
        vault.addRow(0);
        vault.addColumn(0, NUMBER);
        vault.set(0, 0, 0, 5);
        vault.back(1);
        vault.addColumn(0, NUMBER);
        is(MISSING, vault.get(0, 0, 0));
        vault.back(3);
        vault.addColumn(0, TEXT);
        is("5", column(vault, 0, 0));
        is("missing", column(vault, 0, 1));
    }

    @Sentence(promise = 2, says = "(A change.)")
    private static void addColumnIsAChange() {
        ColumnVault vault = new ColumnVault();
        vault.addColumn(0, TEXT);
        is(1, vault.version());
        vault.back(0);
        is(0, vault.size(0, 1));
    }

    @Sentence(promise = 2, says = "- `kind`: NUMBER or TEXT")
    private static void addColumnOfEachKind() {
        ColumnVault vault = new ColumnVault();
        vault.addColumn(0, 1);
        vault.addColumn(0, 0);
        is(TEXT, vault.kind(0, 0));
        is(NUMBER, vault.kind(0, 1));
    }

    @Sentence(promise = 2, says = "Returns the number of the column.")
    private static void theFirstColumnAndTheFourth() {
        ColumnVault vault = new ColumnVault();
        for (int column = 0; column < 4; column++) {
            is(column, vault.addColumn(2, TEXT));
        }
        is(0, vault.addColumn(1, TEXT));
    }

    @Sentence(promise = 2, says = "Throws `IndexOutOfBoundsException` if there is no such table")
    private static void addColumnToNoTable() {
        ColumnVault vault = new ColumnVault();
        noneBeside(3, vault, table -> vault.addColumn(table, NUMBER));
        is(0, vault.addColumn(2, NUMBER));
    }

    @Sentence(promise = 2, says = "Throws `IllegalArgumentException` if kind is out of range")
    private static void addColumnOfNoKind() {
        ColumnVault vault = new ColumnVault();
        outOfRange(NUMBER, TEXT, vault, kind -> vault.addColumn(0, kind));
        is(0, vault.size(0, 1));
    }

    @Sentence(promise = 2, says = "Throws `IllegalStateException` if the table has 4 columns")
    private static void addAFifthColumn() {
        ColumnVault vault = new ColumnVault();
        for (int column = 0; column < 4; column++) {
            vault.addColumn(0, NUMBER);
        }
        state(vault, () -> vault.addColumn(0, NUMBER));
        state(vault, () -> vault.addColumn(0, TEXT));
        is(4, vault.size(0, 1));
        is(0, vault.addColumn(1, NUMBER));
    }

    // ---- 3. addRow

    @Sentence(promise = 3, says = "Adds a row to a table; all its values are missing.")
    private static void aNewRowIsMissingInAllColumns() {
        ColumnVault vault = new ColumnVault();
        for (int column = 0; column < 4; column++) {
            vault.addColumn(0, column % 2);
        }
        vault.addRow(0);
        is(4, vault.size(0, 3));
        // neither what a removed row nor what another version had there comes back
        vault.set(0, 0, 0, 5);
        vault.remove(0, 0);
        vault.addRow(0);
        is(MISSING, vault.get(0, 0, 0));
        vault.set(0, 0, 1, 'a');
        vault.back(4);
        vault.addRow(0);
        is(4, vault.size(0, 3));
    }

    @Sentence(promise = 3, says = "(A change.)")
    private static void addRowIsAChange() {
        ColumnVault vault = new ColumnVault();
        vault.addRow(0);
        is(1, vault.version());
        vault.back(0);
        is(0, vault.size(0, 0));
    }

    @Sentence(promise = 3, says = "Returns the number of the row.")
    private static void theFirstRowAndTheFortieth() {
        ColumnVault vault = new ColumnVault();
        for (int row = 0; row < 40; row++) {
            is(row, vault.addRow(0));
        }
        vault.remove(0, 5);
        is(39, vault.addRow(0));
    }

    @Sentence(promise = 3, says = "Throws `IndexOutOfBoundsException` if there is no such table")
    private static void addRowToNoTable() {
        ColumnVault vault = new ColumnVault();
        noneBeside(3, vault, table -> vault.addRow(table));
        is(0, vault.addRow(2));
    }

    @Sentence(promise = 3, says = "Throws `IllegalStateException` if the table has 40 rows")
    private static void addAFortyFirstRow() {
        ColumnVault vault = numbers(39);
        is(39, vault.addRow(0));
        state(vault, () -> vault.addRow(0));
        is(40, vault.size(0, 0));
        is(0, vault.addRow(1));
    }

    // ---- 4. fill

    @Sentence(promise = 4, says = "Adds rows to a table, with the numbers first, first + step, and so on in a column; their other values are missing.")
    private static void fillOneColumnOfFour() {
        ColumnVault vault = new ColumnVault();
        for (int column = 0; column < 4; column++) {
            vault.addColumn(0, NUMBER);
        }
        vault.fill(0, 0, 7, 1, 1);
        is(4, vault.fill(0, 3, 5, -3, 3));
        is("missing 5 2 -1", column(vault, 0, 3));
        is("7 missing missing missing", column(vault, 0, 0));
        is(12, vault.size(0, 3));
        order("0 1 2 3", vault);
        is("0 1 2 3", chosen(vault));
    }

    @Sentence(promise = 4, says = "(A change.)")
    private static void fillIsOneChange() {
        ColumnVault vault = numbers(1);
        vault.fill(0, 0, 1, 1, 39);
        is(3, vault.version());
        vault.back(2);
        is(1, vault.size(0, 0));
    }

    @Sentence(promise = 4, says = "- `first`: -1000000 to 1000000")
    private static void theLeastAndTheGreatestFirstNumber() {
        ColumnVault vault = numbers(1);
        outOfRange(-1000000, 1000000, vault, first -> vault.fill(0, 0, first, 0, 1));
        is(2, vault.fill(0, 0, -1000000, 0, 1));
        is(3, vault.fill(0, 0, 1000000, 0, 1));
        is("0 -1000000 1000000", column(vault, 0, 0));
    }

    @Sentence(promise = 4, says = "- `step`: -1000 to 1000")
    private static void theLeastAndTheGreatestStep() {
        ColumnVault vault = numbers(1);
        outOfRange(-1000, 1000, vault, step -> vault.fill(0, 0, 0, step, 1));
        outOfRange(-1000, 1000, vault, step -> vault.fill(0, 0, 0, step, 2));
        is(3, vault.fill(0, 0, 0, -1000, 2));
        is(5, vault.fill(0, 0, 0, 1000, 2));
        is(7, vault.fill(0, 0, 3, 0, 2));
        is("0 0 -1000 0 1000 3 3", column(vault, 0, 0));
    }

    @Sentence(promise = 4, says = "- `many`: 1 to 40, how many rows")
    private static void theFewestAndTheMostRows() {
        ColumnVault vault = new ColumnVault();
        vault.addColumn(0, NUMBER);
        outOfRange(1, 40, vault, many -> vault.fill(0, 0, 0, 0, many));
        is(40, vault.fill(0, 0, 0, 0, 40));
        vault.back(1);
        is(1, vault.fill(0, 0, 0, 0, 1));
    }

    @Sentence(promise = 4, says = "Returns how many rows the table has then.")
    private static void fillTellsTheRowsThen() {
        ColumnVault vault = numbers(1);
        vault.addRow(0);
        is(5, vault.fill(0, 0, 1, 1, 3));
        is(40, vault.fill(0, 0, 1, 1, 35));
    }

    @Sentence(promise = 4, says = "Throws `IndexOutOfBoundsException` if there is no such table or column")
    private static void fillNoTableOrColumn() {
        ColumnVault vault = numbers(1);
        noneBeside(3, vault, table -> vault.fill(table, 0, 0, 0, 1));
        noneBeside(1, vault, column -> vault.fill(0, column, 0, 0, 1));
        index(vault, () -> vault.fill(1, 0, 0, 0, 1));
    }

    @Sentence(promise = 4, says = "Throws `IllegalArgumentException` if the column is of the kind TEXT, another parameter is out of range, or one of the numbers would be")
    private static void fillAColumnOfTexts() {
        ColumnVault vault = fiveRows();
        argument(vault, () -> vault.fill(0, 1, 97, 0, 1));
        argument(vault, () -> vault.fill(0, 1, 97, 0, 40));
        is(5, vault.size(0, 0));
    }

    @Sentence(promise = 4, says = "Throws `IllegalArgumentException` if the column is of the kind TEXT, another parameter is out of range, or one of the numbers would be")
    private static void fillWithNumbersThatLeaveTheRange() {
        ColumnVault vault = numbers(1);
        argument(vault, () -> vault.fill(0, 0, 1000000, 1, 2));
        argument(vault, () -> vault.fill(0, 0, -1000000, -1, 2));
        argument(vault, () -> vault.fill(0, 0, 999962, 1, 40));
        argument(vault, () -> vault.fill(0, 0, -961001, -1000, 40));
        argument(vault, () -> vault.fill(0, 0, Integer.MAX_VALUE, Integer.MAX_VALUE, Integer.MAX_VALUE));
        argument(vault, () -> vault.fill(0, 0, 0, Integer.MIN_VALUE, 3));
        argument(vault, () -> vault.fill(0, 0, 0, 1 << 30, 5));
        is(2, vault.fill(0, 0, 1000000, 1000, 1));
        is(3, vault.fill(0, 0, -1000000, -1000, 1));
        is(5, vault.fill(0, 0, 999999, 1, 2));
        is(7, vault.fill(0, 0, 1000000, -1000, 2));
        is("0 1000000 -1000000 999999 1000000 1000000 999000", column(vault, 0, 0));
    }

    @Sentence(promise = 4, says = "Throws `IllegalArgumentException` if the column is of the kind TEXT, another parameter is out of range, or one of the numbers would be")
    private static void fillUpToTheLimitsOfTheNumbers() {
        ColumnVault vault = new ColumnVault();
        vault.addColumn(0, NUMBER);
        is(40, vault.fill(0, 0, 961000, 1000, 40));
        is(1000000L, vault.get(0, 39, 0));
        vault.back(1);
        is(40, vault.fill(0, 0, -961000, -1000, 40));
        is(-1000000L, vault.get(0, 39, 0));
    }

    @Sentence(promise = 4, says = "Throws `IllegalStateException` if the table would have more than 40 rows")
    private static void fillBeyondFortyRows() {
        ColumnVault vault = numbers(5);
        state(vault, () -> vault.fill(0, 0, 0, 0, 36));
        state(vault, () -> vault.fill(0, 0, 0, 0, 40));
        is(40, vault.fill(0, 0, 0, 0, 35));
        state(vault, () -> vault.fill(0, 0, 0, 0, 1));
        is(40, vault.size(0, 0));
    }

    // ---- 5. set

    @Sentence(promise = 5, says = "(A change.)")
    private static void setIsAChange() {
        ColumnVault vault = numbers(1);
        vault.set(0, 0, 0, 5);
        is(3, vault.version());
        vault.set(0, 0, 0, 5);
        is(4, vault.version());
        vault.back(2);
        is(0L, vault.get(0, 0, 0));
    }

    @Sentence(promise = 5, says = "- `value`: a value of the kind of the column, or MISSING")
    private static void setEachKindOfValue() {
        ColumnVault vault = vault(row(null, null));
        for (long value : new long[] {-1000000, 0, 1000000, MISSING}) {
            is(true, vault.set(0, 0, 0, value));
            is(value, vault.get(0, 0, 0));
        }
        for (long value : new long[] {'a', word("zzzzzzz"), 'z', word("ab"), MISSING}) {
            is(true, vault.set(0, 0, 1, value));
            is(value, vault.get(0, 0, 1));
        }
    }

    @Sentence(promise = 5, says = "Returns whether it is another one than before.")
    private static void setTheSameOrAnotherValue() {
        ColumnVault vault = vault(row(5, "b"), row(null, null));
        is(false, vault.set(0, 0, 0, 5));
        is(true, vault.set(0, 0, 0, -5));
        is(true, vault.set(0, 0, 0, MISSING));
        is(false, vault.set(0, 0, 0, MISSING));
        is(true, vault.set(0, 0, 0, 0));
        is(false, vault.set(0, 1, 0, MISSING));
        is(false, vault.set(0, 0, 1, 'b'));
        is(true, vault.set(0, 0, 1, word("bb")));
        is(true, vault.set(0, 0, 1, 'b'));
        is(false, vault.set(0, 1, 1, MISSING));
        is(true, vault.set(0, 1, 1, 'b'));
    }

    @Sentence(promise = 5, says = "Throws `IndexOutOfBoundsException` if there is no such table, row or column")
    private static void setNowhere() {
        ColumnVault vault = fiveRows();
        noneBeside(3, vault, table -> vault.set(table, 0, 0, 1));
        noneBeside(5, vault, row -> vault.set(0, row, 0, 1));
        noneBeside(2, vault, column -> vault.set(0, 0, column, 1));
        vault.addColumn(1, NUMBER);
        index(vault, () -> vault.set(1, 0, 0, 1));
        is(true, vault.set(0, 4, 1, 'b'));
    }

    @Sentence(promise = 5, says = "Throws `IllegalArgumentException` if value is no such value")
    private static void setNoValue() {
        ColumnVault vault = fiveRows();
        for (long value : new long[] {1000001, -1000001, MISSING - 1, MISSING + 1, -MISSING, word("aaaa"), Long.MIN_VALUE, Long.MAX_VALUE}) {
            argument(vault, () -> vault.set(0, 0, 0, value));
        }
        for (long value : new long[] {0, 1, -1, 65, 96, 123, 97 << 8, 97 << 8 | 1, word("aaaaaaaa"), MISSING - 1, MISSING + 1, Long.MIN_VALUE,
            Long.MAX_VALUE, 97L << 48, 97L << 56}) {
            argument(vault, () -> vault.set(0, 0, 1, value));
        }
        is(3L, vault.get(0, 0, 0));
        is(98L, vault.get(0, 0, 1));
    }

    // ---- 6. remove

    @Sentence(promise = 6, says = "(A change.)")
    private static void removeIsAChange() {
        ColumnVault vault = numbers(2);
        vault.remove(0, 0);
        is(3, vault.version());
        is("1", column(vault, 0, 0));
        vault.back(2);
        is("0 1", column(vault, 0, 0));
    }

    @Sentence(promise = 6, says = "Returns how many rows the table has then.")
    private static void removeAllRows() {
        ColumnVault vault = numbers(40);
        for (int rows = 39; rows >= 0; rows--) {
            is(rows, vault.remove(0, rows % 2 == 0 ? 0 : rows));
        }
        is(0, vault.size(0, 0));
        is(0, vault.size(0, 2));
        is(0, vault.addRow(0));
        is(MISSING, vault.get(0, 0, 0));
        is(true, vault.isChosen(0, 0));
        order("0", vault);
    }

    @Sentence(promise = 6, says = "Throws `IndexOutOfBoundsException` if there is no such table or row")
    private static void removeNoRow() {
        ColumnVault vault = numbers(3);
        noneBeside(3, vault, table -> vault.remove(table, 0));
        noneBeside(3, vault, row -> vault.remove(0, row));
        index(vault, () -> vault.remove(1, 0));
        is(2, vault.remove(0, 2));
        index(vault, () -> vault.remove(0, 2));
        vault.remove(0, 0);
        vault.remove(0, 0);
        index(vault, () -> vault.remove(0, 0));
    }

    // ---- 7. get

    @Sentence(promise = 7, says = "Returns the value, or MISSING.")
    private static void getAtTheCornersOfAFullTable() {
        ColumnVault vault = numbers(40);
        vault.addColumn(0, TEXT);
        vault.addColumn(0, NUMBER);
        vault.addColumn(0, TEXT);
        vault.set(0, 39, 3, word("zzzzzzz"));
        vault.set(0, 0, 2, -1000000);
        is(0L, vault.get(0, 0, 0));
        is(39L, vault.get(0, 39, 0));
        is(MISSING, vault.get(0, 0, 3));
        is(MISSING, vault.get(0, 38, 3));
        is(word("zzzzzzz"), vault.get(0, 39, 3));
        is(-1000000L, vault.get(0, 0, 2));
        is(MISSING, vault.get(0, 39, 2));
    }

    @Sentence(promise = 7, says = "Throws `IndexOutOfBoundsException` if there is no such table, row or column")
    private static void getNowhere() {
        ColumnVault vault = fiveRows();
        noneBeside(3, vault, table -> vault.get(table, 0, 0));
        noneBeside(5, vault, row -> vault.get(0, row, 0));
        noneBeside(2, vault, column -> vault.get(0, 0, column));
        vault.addRow(1);
        index(vault, () -> vault.get(1, 0, 0));
        vault.addColumn(2, TEXT);
        index(vault, () -> vault.get(2, 0, 0));
        is(97L, vault.get(0, 4, 1));
    }

    // ---- 8. size

    @Sentence(promise = 8, says = "- `what`: 0 for its rows, 1 for its columns, 2 for the rows that are chosen, 3 for the values that are missing")
    private static void sizesOfEmptyAndFullTables() {
        ColumnVault vault = numbers(40);
        vault.addColumn(0, TEXT);
        vault.turnChoice(0);
        vault.set(0, 0, 0, MISSING);
        is("40 2 0 41", sizes(vault, 0));
        vault.turnChoice(0);
        vault.remove(0, 0);
        is("39 2 39 39", sizes(vault, 0));
        is("0 0 0 0", sizes(vault, 1));
        vault.addRow(1);
        is("1 0 1 0", sizes(vault, 1));
        vault.addColumn(2, TEXT);
        is("0 1 0 0", sizes(vault, 2));
    }

    private static String sizes(ColumnVault vault, int table) {
        return vault.size(table, 0) + " " + vault.size(table, 1) + " " + vault.size(table, 2) + " " + vault.size(table, 3);
    }

    @Sentence(promise = 8, says = "Throws `IndexOutOfBoundsException` if there is no such table")
    private static void sizeOfNoTable() {
        ColumnVault vault = fiveRows();
        noneBeside(3, vault, table -> vault.size(table, 0));
        is(0, vault.size(2, 0));
    }

    @Sentence(promise = 8, says = "Throws `IllegalArgumentException` if what is out of range")
    private static void sizeOfNothing() {
        ColumnVault vault = fiveRows();
        outOfRange(0, 3, vault, what -> vault.size(0, what));
        outOfRange(0, 3, vault, what -> vault.size(2, what));
    }

    // ---- 9. kind

    @Sentence(promise = 9, says = "Returns NUMBER or TEXT.")
    private static void kindsOfFourColumns() {
        ColumnVault vault = new ColumnVault();
        for (int column = 0; column < 4; column++) {
            vault.addColumn(2, column == 3 ? NUMBER : TEXT);
        }
        is(TEXT, vault.kind(2, 0));
        is(TEXT, vault.kind(2, 2));
        is(NUMBER, vault.kind(2, 3));
    }

    @Sentence(promise = 9, says = "Throws `IndexOutOfBoundsException` if there is no such table or column")
    private static void kindOfNothing() {
        ColumnVault vault = numbers(1);
        noneBeside(3, vault, table -> vault.kind(table, 0));
        noneBeside(1, vault, column -> vault.kind(0, column));
        index(vault, () -> vault.kind(1, 0));
        vault.back(0);
        index(vault, () -> vault.kind(0, 0));
    }

    // ---- 10. version

    @Sentence(promise = 10, says = "Returns the number of the version of now.")
    private static void theVersionOfNow() {
        ColumnVault vault = new ColumnVault();
        is(0, vault.version());
        vault.addColumn(0, NUMBER);
        vault.addRow(0);
        vault.fill(0, 0, 0, 0, 2);
        vault.set(0, 0, 0, 1);
        vault.remove(0, 0);
        vault.sort(0, 0, false, false);
        vault.turnChoice(0);
        say(vault, "#0 = 0");
        is(7, vault.version());
        vault.choose(0, ColumnVault.AND);
        is(8, vault.version());
        is(9, vault.back(8));
        is(9, vault.version());
    }

    // ---- 11. back

    @Sentence(promise = 11, says = "(A change.)")
    private static void backIsAChange() {
        ColumnVault vault = numbers(1);
        is(3, vault.back(0));
        is(0, vault.size(0, 1));
        is(4, vault.back(2));
        is("0", column(vault, 0, 0));
        is(4, vault.version());
    }

    @Sentence(promise = 11, says = "The text, the pairs of the latest join, and the groups stay.")
    private static void textPairsAndGroupsStay() {
        ColumnVault vault = fiveRows();
        int then = vault.version();
        say(vault, "#0 < 9");
        vault.join(0, 1, 0, 1, ColumnVault.LEFT);
        vault.group(0, 1);
        vault.back(then - 11);
        is(6, vault.type(0));
        pairs("0-0 1--1 2-2 3--1 4-4", vault, 5);
        groups("97 1 4 4 | 24930 1 2 2 | 98 1 0 0 | missing 2 1 3", vault, 4);
        is(2L, vault.groupTotal(3, 0, 1));
        vault.back(then);
        groups("97 1 4 4 | 24930 1 2 2 | 98 1 0 0 | missing 2 1 3", vault, 4);
        is(5, vault.count(0));
    }

    @Sentence(promise = 11, says = "- `version`: number of a version that is kept")
    private static void backToTheOldestAndToTheOneOfNow() {
        ColumnVault vault = numbers(1);
        for (int version = 3; version <= 20; version++) {
            vault.set(0, 0, 0, version);
        }
        is(21, vault.back(9));
        is(9L, vault.get(0, 0, 0));
        is(22, vault.back(21));
        is(9L, vault.get(0, 0, 0));
        is(23, vault.back(20));
        is(20L, vault.get(0, 0, 0));
    }

    @Sentence(promise = 11, says = "Returns the number of the new version.")
    private static void theNewVersionIsTheNextOne() {
        ColumnVault vault = new ColumnVault();
        for (int version = 1; version <= 30; version++) {
            is(version, vault.back(version - 1));
            is(version, vault.version());
        }
    }

    @Sentence(promise = 11, says = "Throws `IndexOutOfBoundsException` if there is no such version, or it is not kept")
    private static void backToNoVersion() {
        ColumnVault vault = new ColumnVault();
        noneBeside(1, vault, version -> vault.back(version));
        for (int i = 1; i <= 11; i++) {
            vault.turnChoice(0);
        }
        is(12, vault.back(0));
        index(vault, () -> vault.back(0));
        noneBeside(13, vault, version -> vault.back(version));
        for (int i = 0; i < 12; i++) {
            vault.addRow(0);
        }
        index(vault, () -> vault.back(12));
        index(vault, () -> vault.back(25));
        is(25, vault.back(13));
        is(1, vault.size(0, 0));
    }

    // ---- 12. sort

    @Sentence(promise = 12, says = "the least value first, or the greatest one; rows with the same value, and those in which it is missing, stay among them as they stood.")
    private static void sameValuesStayAsTheyStood() {
        ColumnVault vault = vault(row(1, "b"), row(2, "a"), row(1, null), row(null, "ab"), row(2, "b"), row(null, null));
        vault.sort(0, 0, false, false);
        order("0 2 1 4 3 5", vault);
        vault.sort(0, 0, true, false);
        order("1 4 0 2 3 5", vault);
        vault.sort(0, 1, true, true);
        order("2 5 4 0 3 1", vault);
        vault.sort(0, 0, false, true);
        order("5 3 2 0 4 1", vault);
    }

    @Sentence(promise = 12, says = "the least value first, or the greatest one; rows with the same value, and those in which it is missing, stay among them as they stood.")
    private static void sortTheLeastAndTheGreatestValues() {
        ColumnVault vault = vault(row(0, "z"), row(1000000, "zzzzzzz"), row(-1000000, "a"), row(null, "aaaaaaa"));
        vault.sort(0, 0, false, true);
        order("3 2 0 1", vault);
        vault.sort(0, 0, true, false);
        order("1 0 2 3", vault);
        vault.sort(0, 1, false, false);
        order("2 3 0 1", vault);
    }

    @Sentence(promise = 12, says = "the least value first, or the greatest one; rows with the same value, and those in which it is missing, stay among them as they stood.")
    private static void sortFortyEqualRowsAndFortyThatAreMissing() {
        ColumnVault vault = new ColumnVault();
        vault.addColumn(0, NUMBER);
        vault.addColumn(0, TEXT);
        vault.fill(0, 0, 3, 0, 40);
        for (int way = 0; way < 4; way++) {
            is(0, vault.sort(0, 0, way % 2 == 0, way < 2));
            is(0, vault.sort(0, 1, way % 2 == 0, way < 2));
        }
    }

    @Sentence(promise = 12, says = "(A change.)")
    private static void sortIsAChange() {
        ColumnVault vault = numbers(3);
        vault.sort(0, 0, true, false);
        is(3, vault.version());
        vault.sort(0, 0, true, false);
        is(4, vault.version());
        vault.back(2);
        order("0 1 2", vault);
        is("0 1 2", column(vault, 0, 0));
    }

    @Sentence(promise = 12, says = "- `isDown`: true for the greatest value first")
    private static void sortDownAndUp() {
        ColumnVault vault = vault(row(2, null), row(3, null), row(1, null));
        vault.sort(0, 0, true, true);
        order("1 0 2", vault);
        vault.sort(0, 0, false, true);
        order("2 0 1", vault);
    }

    @Sentence(promise = 12, says = "- `isMissingFirst`: true to have the rows in which it is missing ahead of all others, false for behind all others")
    private static void missingFirstOrLastBothWays() {
        ColumnVault vault = vault(row(null, null), row(-1000000, null), row(1000000, null), row(null, null));
        vault.sort(0, 0, false, true);
        order("0 3 1 2", vault);
        vault.sort(0, 0, true, true);
        order("0 3 2 1", vault);
        vault.sort(0, 0, false, false);
        order("1 2 0 3", vault);
        vault.sort(0, 0, true, false);
        order("2 1 0 3", vault);
    }

    @Sentence(promise = 12, says = "Returns how many places of the order have another row than before.")
    private static void placesWithAnotherRow() {
        ColumnVault vault = numbers(40);
        is(0, vault.sort(0, 0, false, false));
        is(40, vault.sort(0, 0, true, false));
        is(0, vault.sort(0, 0, true, true));
        vault.set(0, 0, 0, 100);
        is(40, vault.sort(0, 0, true, false));
        ColumnVault odd = numbers(5);
        is(4, odd.sort(0, 0, true, false));
        odd.set(0, 4, 0, 2);
        is(2, odd.sort(0, 0, true, false));
        ColumnVault empty = new ColumnVault();
        empty.addColumn(0, NUMBER);
        is(0, empty.sort(0, 0, true, true));
    }

    @Sentence(promise = 12, says = "Throws `IndexOutOfBoundsException` if there is no such table or column")
    private static void sortNothing() {
        ColumnVault vault = fiveRows();
        noneBeside(3, vault, table -> vault.sort(table, 0, true, true));
        noneBeside(2, vault, column -> vault.sort(0, column, true, true));
        index(vault, () -> vault.sort(1, 0, false, false));
        order("0 1 2 3 4", vault);
    }

    // ---- 13. rowAt

    @Sentence(promise = 13, says = "Throws `IndexOutOfBoundsException` if there is no such table or place")
    private static void rowAtNoPlace() {
        ColumnVault vault = numbers(40);
        vault.sort(0, 0, true, false);
        is(39, vault.rowAt(0, 0));
        is(0, vault.rowAt(0, 39));
        noneBeside(3, vault, table -> vault.rowAt(table, 0));
        noneBeside(40, vault, place -> vault.rowAt(0, place));
        vault.remove(0, 0);
        index(vault, () -> vault.rowAt(0, 39));
        is(0, vault.rowAt(0, 38));
        index(vault, () -> vault.rowAt(1, 0));
    }

    // ---- 14. placeOf

    @Sentence(promise = 14, says = "Throws `IndexOutOfBoundsException` if there is no such table or row")
    private static void placeOfNoRow() {
        ColumnVault vault = numbers(40);
        vault.sort(0, 0, true, false);
        is(39, vault.placeOf(0, 0));
        is(0, vault.placeOf(0, 39));
        noneBeside(3, vault, table -> vault.placeOf(table, 0));
        noneBeside(40, vault, row -> vault.placeOf(0, row));
        vault.remove(0, 39);
        index(vault, () -> vault.placeOf(0, 39));
        is(38, vault.placeOf(0, 0));
        index(vault, () -> vault.placeOf(1, 0));
    }

    // ---- 15. isChosen

    @Sentence(promise = 15, says = "Throws `IndexOutOfBoundsException` if there is no such table or row")
    private static void isNoRowChosen() {
        ColumnVault vault = numbers(40);
        choose(vault, "#0 in 0 39");
        is(true, vault.isChosen(0, 0));
        is(false, vault.isChosen(0, 1));
        is(false, vault.isChosen(0, 38));
        is(true, vault.isChosen(0, 39));
        noneBeside(3, vault, table -> vault.isChosen(table, 0));
        noneBeside(40, vault, row -> vault.isChosen(0, row));
        vault.remove(0, 0);
        index(vault, () -> vault.isChosen(0, 39));
        index(vault, () -> vault.isChosen(2, 0));
    }

    // ---- 16. choose

    @Sentence(promise = 16, says = "(A change.)")
    private static void chooseIsAChange() {
        ColumnVault vault = numbers(3);
        choose(vault, "#0 = 1");
        is(3, vault.version());
        vault.choose(0, ColumnVault.SET);
        is(4, vault.version());
        vault.back(2);
        is("0 1 2", chosen(vault));
    }

    @Sentence(promise = 16, says = "- `how`: SET: just the rows for which it holds; AND: of those that are chosen, those for which it holds; OR: those for which it holds, too; WITHOUT: those no more for which it holds")
    private static void chooseInEachWay() {
        ColumnVault vault = numbers(40);
        choose(vault, "#0 to 1 5");
        is("1 2 3 4 5", chosen(vault));
        say(vault, "#0 to 4 7");
        is(4, vault.choose(0, ColumnVault.SET));
        is("4 5 6 7", chosen(vault));
        say(vault, "#0 to 7 9");
        is(1, vault.choose(0, ColumnVault.AND));
        is("7", chosen(vault));
        say(vault, "#0 in 0 39");
        is(3, vault.choose(0, ColumnVault.OR));
        is("0 7 39", chosen(vault));
        say(vault, "#0 < 8");
        is(1, vault.choose(0, ColumnVault.WITHOUT));
        is("39", chosen(vault));
        say(vault, "#0 > 99");
        is(1, vault.choose(0, ColumnVault.OR));
        is(1, vault.choose(0, ColumnVault.WITHOUT));
        is(0, vault.choose(0, ColumnVault.AND));
        say(vault, "#0 < 99");
        is(0, vault.choose(0, ColumnVault.AND));
        is(0, vault.choose(0, ColumnVault.WITHOUT));
        is(40, vault.choose(0, ColumnVault.SET));
        is(40, vault.choose(0, ColumnVault.AND));
        is(0, vault.choose(0, ColumnVault.WITHOUT));
        is(40, vault.choose(0, ColumnVault.OR));
    }

    @Sentence(promise = 16, says = "Returns how many rows are chosen then.")
    private static void chooseInATableWithoutRows() {
        ColumnVault vault = new ColumnVault();
        vault.addColumn(0, NUMBER);
        say(vault, "!#0 = 1");
        for (int how = ColumnVault.SET; how <= ColumnVault.WITHOUT; how++) {
            is(0, vault.choose(0, how));
        }
    }

    @Sentence(promise = 16, says = "Throws `IndexOutOfBoundsException` if there is no such table")
    private static void chooseInNoTable() {
        ColumnVault vault = numbers(3);
        say(vault, "#0 = 1");
        noneBeside(3, vault, table -> vault.choose(table, ColumnVault.SET));
        is("0 1 2", chosen(vault));
    }

    @Sentence(promise = 16, says = "Throws `IllegalArgumentException` if how is out of range")
    private static void chooseInNoWay() {
        ColumnVault vault = numbers(3);
        say(vault, "#0 = 1");
        outOfRange(ColumnVault.SET, ColumnVault.WITHOUT, vault, how -> vault.choose(0, how));
        is("0 1 2", chosen(vault));
    }

    @Sentence(promise = 16, says = "Throws `IllegalStateException` if the text has an error for this table")
    private static void chooseByATextWithAnError() {
        ColumnVault vault = fiveRows();
        vault.addColumn(1, TEXT);
        for (int how = ColumnVault.SET; how <= ColumnVault.WITHOUT; how++) {
            int way = how;
            vault.clearText();
            state(vault, () -> vault.choose(0, way));
            say(vault, "#0 = 1");
            state(vault, () -> vault.choose(1, way));
            state(vault, () -> vault.choose(2, way));
            say(vault, "#0 = a");
            is(0, vault.choose(1, way));
        }
        is("0 1 2 3 4", chosen(vault));
    }

    // ---- 17. turnChoice

    @Sentence(promise = 17, says = "Chooses all rows that are not chosen, and no others.")
    private static void turnNoneSomeAndAll() {
        ColumnVault vault = numbers(40);
        is(0, vault.turnChoice(0));
        is("", chosen(vault));
        is(40, vault.turnChoice(0));
        choose(vault, "#0 in 0 39");
        is(38, vault.turnChoice(0));
        is(false, vault.isChosen(0, 39));
        is(true, vault.isChosen(0, 38));
        is(0, vault.turnChoice(1));
        vault.addRow(1);
        is(0, vault.turnChoice(1));
    }

    @Sentence(promise = 17, says = "(A change.)")
    private static void turnChoiceIsAChange() {
        ColumnVault vault = numbers(3);
        vault.turnChoice(0);
        is(3, vault.version());
        vault.turnChoice(1);
        is(4, vault.version());
        vault.back(2);
        is("0 1 2", chosen(vault));
    }

    @Sentence(promise = 17, says = "Throws `IndexOutOfBoundsException` if there is no such table")
    private static void turnTheChoiceOfNoTable() {
        ColumnVault vault = numbers(3);
        noneBeside(3, vault, table -> vault.turnChoice(table));
        is(0, vault.turnChoice(2));
    }

    // ---- 18. count

    @Sentence(promise = 18, says = "Counts the rows for which the text as a filter holds.")
    private static void countNoneAndAll() {
        ColumnVault vault = numbers(40);
        vault.turnChoice(0);
        say(vault, "#0 < 40");
        is(40, vault.count(0));
        say(vault, "#0 < 0");
        is(0, vault.count(0));
        say(vault, "#0 = 39");
        is(1, vault.count(0));
        vault.addColumn(1, NUMBER);
        is(0, vault.count(1));
    }

    @Sentence(promise = 18, says = "Throws `IndexOutOfBoundsException` if there is no such table")
    private static void countInNoTable() {
        ColumnVault vault = numbers(3);
        say(vault, "#0 = 1");
        noneBeside(3, vault, table -> vault.count(table));
        vault.clearText();
        noneBeside(3, vault, table -> vault.count(table));
    }

    @Sentence(promise = 18, says = "Throws `IllegalStateException` if the text has an error for this table")
    private static void countByATextWithAnError() {
        ColumnVault vault = fiveRows();
        state(vault, () -> vault.count(0));
        say(vault, "#2 = 1");
        state(vault, () -> vault.count(0));
        say(vault, "#1 = 1");
        state(vault, () -> vault.count(0));
        say(vault, "#0 = 1");
        is(1, vault.count(0));
        state(vault, () -> vault.count(1));
    }

    // ---- 19. reads

    @Sentence(promise = 19, says = "- `isByCounts`: true for pieces and parts by counts, false as they are told")
    private static void readsInBothOrders() {
        ColumnVault vault = numbers(40);
        reads(79, 40, vault, "#0 = 39 | #0 < 40");
        reads(80, 41, vault, "#0 < 40 & #0 = 39");
    }

    @Sentence(promise = 19, says = "Throws `IndexOutOfBoundsException` if there is no such table")
    private static void readsInNoTable() {
        ColumnVault vault = numbers(3);
        say(vault, "#0 = 1");
        noneBeside(3, vault, table -> vault.reads(table, false));
        noneBeside(3, vault, table -> vault.reads(table, true));
    }

    @Sentence(promise = 19, says = "Throws `IllegalStateException` if the text has an error for this table")
    private static void readsOfATextWithAnError() {
        ColumnVault vault = fiveRows();
        state(vault, () -> vault.reads(0, false));
        state(vault, () -> vault.reads(0, true));
        say(vault, "#0 = 1");
        state(vault, () -> vault.reads(1, false));
        state(vault, () -> vault.reads(1, true));
        is(5, vault.reads(0, true));
    }

    // ---- 20. errorKind

    @Sentence(promise = 20, says = "Returns 1 to 3; 0 without an error.")
    private static void eachKindOfError() {
        ColumnVault vault = fiveRows();
        is(1, vault.errorKind(0));
        say(vault, "#2");
        is(2, vault.errorKind(0));
        say(vault, "#0 = b");
        is(3, vault.errorKind(0));
        say(vault, "#0 = 1");
        is(0, vault.errorKind(0));
        is(2, vault.errorKind(1));
        vault.addColumn(1, TEXT);
        is(3, vault.errorKind(1));
    }

    @Sentence(promise = 20, says = "Throws `IndexOutOfBoundsException` if there is no such table")
    private static void errorKindForNoTable() {
        ColumnVault vault = numbers(3);
        noneBeside(3, vault, table -> vault.errorKind(table));
        say(vault, "#0 = 1");
        noneBeside(3, vault, table -> vault.errorKind(table));
    }

    // ---- 21. errorPlace

    @Sentence(promise = 21, says = "Returns the index of a byte, or the length of the text; NONE without an error.")
    private static void placesOfErrors() {
        ColumnVault vault = fiveRows();
        is(0, vault.errorPlace(0));
        say(vault, "  #2");
        is(2, vault.errorPlace(0));
        say(vault, "#0 =   ");
        is(7, vault.errorPlace(0));
        say(vault, "#0 = 1");
        is(NONE, vault.errorPlace(0));
        is(0, vault.errorPlace(1));
    }

    @Sentence(promise = 21, says = "Throws `IndexOutOfBoundsException` if there is no such table")
    private static void errorPlaceForNoTable() {
        ColumnVault vault = numbers(3);
        noneBeside(3, vault, table -> vault.errorPlace(table));
        say(vault, "#0 = 1");
        noneBeside(3, vault, table -> vault.errorPlace(table));
    }

    // ---- 22. type

    @Sentence(promise = 22, says = "Puts bytes behind the text: those of a number, the highest one first, without those that are 0.")
    private static void bytesThatAreZeroAreLeftOut() {
        ColumnVault vault = numbers(3);
        is(0, vault.type(0));
        is(1, vault.type('#'));
        is(2, vault.type((long) '0' << 56));
        is(4, vault.type((long) '<' << 40 | (long) '9' << 16));
        is(3, vault.count(0));
        is(12, vault.type(-1));
        is(4, vault.errorPlace(0));
        is(13, vault.type(Long.MIN_VALUE));
        is(21, vault.type(Long.MAX_VALUE));
        is(29, vault.type(0x0101010101010101L));
        is(30, vault.type(0x0000000100000000L));
    }

    @Sentence(promise = 22, says = "Puts bytes behind the text: those of a number, the highest one first, without those that are 0.")
    private static void theHighestByteIsTheFirst() {
        ColumnVault vault = numbers(3);
        is(8, vault.type(word("#0 in 12")));
        is(0, vault.count(0));
        is(10, vault.type(word(" 1")));
        is(1, vault.count(0));
    }

    @Sentence(promise = 22, says = "- `bytes`: the number")
    private static void theLeastAndTheGreatestNumberOfBytes() {
        ColumnVault vault = numbers(3);
        is(1, vault.type(Long.MIN_VALUE));
        is(9, vault.type(Long.MAX_VALUE));
        is(17, vault.type(-1));
        is(17, vault.type(0));
        is(18, vault.type(1));
        is(19, vault.type(255));
        is(20, vault.type(256));
        is(27, vault.type(0x00ffffffffffffffL));
        is(1, vault.errorKind(0));
        is(0, vault.errorPlace(0));
    }

    @Sentence(promise = 22, says = "Throws `IllegalStateException` if it would be above 160")
    private static void typeBeyondTheEnd() {
        ColumnVault vault = numbers(3);
        for (int i = 1; i <= 19; i++) {
            is(8 * i, vault.type(word("((((((((")));
        }
        is(159, vault.type(word("(((((((")));
        state(vault, () -> vault.type(-1));
        state(vault, () -> vault.type(word("((")));
        is(160, vault.type((long) '(' << 56));
        state(vault, () -> vault.type(1));
        state(vault, () -> vault.type(Long.MIN_VALUE));
        is(160, vault.type(0));
        is(6, vault.errorPlace(0));
        is(160, vault.clearText());
        is(8, vault.type(-1));
    }

    // ---- 23. clearText

    @Sentence(promise = 23, says = "Returns its length before.")
    private static void clearEmptyAndFullTexts() {
        ColumnVault vault = numbers(3);
        is(0, vault.clearText());
        for (int i = 0; i < 20; i++) {
            vault.type(-1);
        }
        is(160, vault.clearText());
        is(0, vault.clearText());
        is(1, vault.errorKind(0));
        is(0, vault.errorPlace(0));
        is(1, vault.type(' '));
        is(1, vault.clearText());
    }

    // ---- 24. example

    @Sentence(promise = 24, says = "0: #0 < 5 & !(#1 = b | #1 missing)")
    private static void theFirstExample() {
        ColumnVault vault = vault(row(4, "a"), row(5, "a"), row(4, "b"), row(4, null), row(null, "a"), row(-9, "zz"));
        is(31, vault.example(0));
        vault.choose(0, ColumnVault.SET);
        is("0 5", chosen(vault));
        is(13, vault.reads(0, false));
        is("#0 < 5 & !(#1 = b | #1 missing)".length(), vault.type(0));
    }

    @Sentence(promise = 24, says = "1: #0 to -3 3 | #0 in 7 9 11 & !#0 = 9")
    private static void theSecondExample() {
        ColumnVault vault = vault(row(-3, null), row(3, null), row(4, null), row(-4, null), row(7, null), row(9, null), row(11, null), row(null, null));
        is(35, vault.example(1));
        vault.choose(0, ColumnVault.SET);
        is("0 1 4 6", chosen(vault));
        is(17, vault.reads(0, false));
        is("#0 to -3 3 | #0 in 7 9 11 & !#0 = 9".length(), vault.type(0));
    }

    @Sentence(promise = 24, says = "2: !(#0 missing) & (#0 > 2 | #0 < -2) & #0 to -9 9")
    private static void theThirdExample() {
        ColumnVault vault = vault(row(-3, null), row(3, null), row(2, null), row(-2, null), row(9, null), row(-9, null), row(10, null), row(null, null));
        is(47, vault.example(2));
        vault.choose(0, ColumnVault.SET);
        is("0 1 4 5", chosen(vault));
        is(24, vault.reads(0, false));
        is("!(#0 missing) & (#0 > 2 | #0 < -2) & #0 to -9 9".length(), vault.type(0));
    }

    @Sentence(promise = 24, says = "Replaces the text by one of these filters")
    private static void anExampleReplacesAFullText() {
        ColumnVault vault = fiveRows();
        for (int i = 0; i < 20; i++) {
            vault.type(-1);
        }
        is(35, vault.example(1));
        is(0, vault.errorKind(0));
        is(31, vault.example(0));
        is(32, vault.type(' '));
        is(2, vault.count(0));
    }

    @Sentence(promise = 24, says = "- `which`: 0 to 2")
    private static void theFirstAndTheLastExample() {
        ColumnVault vault = fiveRows();
        is(31, vault.example(0));
        is(2, vault.count(0));
        is(47, vault.example(2));
        is(1, vault.count(0));
        is(35, vault.example(1));
        is(5, vault.count(0));
    }

    @Sentence(promise = 24, says = "Throws `IllegalArgumentException` if which is out of range")
    private static void noSuchExample() {
        ColumnVault vault = fiveRows();
        say(vault, "#0 = 1");
        outOfRange(0, 2, vault, which -> vault.example(which));
        is(6, vault.type(0));
        is(1, vault.count(0));
    }
}
