/** A test for each sentence of the promises 25 to 40 (what is worked out of the tables) that names a boundary case. */
public final class AnswersEdgesTest extends Kit {
    public static void main(String[] args) throws IllegalAccessException {
        runSentences(AnswersEdgesTest.class);
    }

    private static ColumnVault twoTables() {
        ColumnVault vault = vault(row(1, "a"), row(2, "b"), row(null, "c"), row(2, "b"), row(5, null), row(7, "b"));
        vault.addColumn(1, TEXT);
        vault.addColumn(1, NUMBER);
        addRow(vault, 1, "b", 2);
        addRow(vault, 1, null, null);
        addRow(vault, 1, "a", 5);
        addRow(vault, 1, "b", 2);
        return vault;
    }

    /** A table 0 with one column of numbers that are missing. */
    private static ColumnVault missingNumbers(int rows) {
        ColumnVault vault = new ColumnVault();
        vault.addColumn(0, NUMBER);
        for (int row = 0; row < rows; row++) {
            vault.addRow(0);
        }
        return vault;
    }

    // ---- 25. join

    @Sentence(promise = 25, says = "Joins the chosen rows of two tables.")
    private static void rowsThatAreNotChosenHaveNoPart() {
        ColumnVault vault = twoTables();
        choose(vault, "#0 in 5 7");
        is(1, vault.join(0, 0, 1, 1, ColumnVault.INNER));
        pairs("4-2", vault, 1);
        is(1, vault.join(0, 0, 1, 1, ColumnVault.ANTI));
        pairs("5--1", vault, 1);
        vault.turnChoice(1);
        is(2, vault.join(0, 0, 1, 1, ColumnVault.LEFT));
        pairs("4--1 5--1", vault, 2);
        is(0, vault.join(1, 1, 0, 0, ColumnVault.LEFT));
        pairs("", vault, 0);
    }

    @Sentence(promise = 25, says = "INNER: all pairs of a row of the left table and one of the right table that have the same value, of their columns.")
    private static void theMostPairsAndNone() {
        ColumnVault vault = new ColumnVault();
        vault.addColumn(0, NUMBER);
        vault.addColumn(1, NUMBER);
        is(0, vault.join(0, 0, 1, 0, ColumnVault.INNER));
        vault.fill(0, 0, 7, 0, 40);
        is(0, vault.join(0, 0, 1, 0, ColumnVault.INNER));
        is(0, vault.join(1, 0, 0, 0, ColumnVault.INNER));
        vault.fill(1, 0, 7, 0, 40);
        is(1600, vault.join(0, 0, 1, 0, ColumnVault.INNER));
        is(0, vault.pairAt(0, true));
        is(39, vault.pairAt(39, true));
        is(1, vault.pairAt(40, false));
        is(0, vault.pairAt(40, true));
        is(39, vault.pairAt(1599, false));
        is(39, vault.pairAt(1599, true));
        index(vault, () -> vault.pairAt(1600, true));
    }

    @Sentence(promise = 25, says = "LEFT: these, and each row of the left table that has no such partner, with NONE.")
    private static void leftWithAllSomeAndNoPartners() {
        ColumnVault vault = twoTables();
        is(8, vault.join(0, 0, 1, 1, ColumnVault.LEFT));
        pairs("0--1 1-0 1-3 2--1 3-0 3-3 4-2 5--1", vault, 8);
        vault.addColumn(2, NUMBER);
        is(6, vault.join(0, 0, 2, 0, ColumnVault.LEFT));
        pairs("0--1 1--1 2--1 3--1 4--1 5--1", vault, 6);
        is(0, vault.join(2, 0, 0, 0, ColumnVault.LEFT));
        ColumnVault full = numbers(40);
        is(40, full.join(0, 0, 0, 0, ColumnVault.LEFT));
        is(39, full.pairAt(39, true));
    }

    @Sentence(promise = 25, says = "ANTI: just those with NONE.")
    private static void antiWithAllSomeAndNoPartners() {
        ColumnVault vault = twoTables();
        is(3, vault.join(0, 0, 1, 1, ColumnVault.ANTI));
        pairs("0--1 2--1 5--1", vault, 3);
        vault.addColumn(2, TEXT);
        is(4, vault.join(1, 0, 2, 0, ColumnVault.ANTI));
        pairs("0--1 1--1 2--1 3--1", vault, 4);
        ColumnVault full = numbers(40);
        is(0, full.join(0, 0, 0, 0, ColumnVault.ANTI));
        pairs("", full, 0);
    }

    @Sentence(promise = 25, says = "What is missing has no partner.")
    private static void missingHasNoPartnerNotEvenMissing() {
        ColumnVault vault = missingNumbers(3);
        is(0, vault.join(0, 0, 0, 0, ColumnVault.INNER));
        is(3, vault.join(0, 0, 0, 0, ColumnVault.LEFT));
        pairs("0--1 1--1 2--1", vault, 3);
        is(3, vault.join(0, 0, 0, 0, ColumnVault.ANTI));
        pairs("0--1 1--1 2--1", vault, 3);
    }

    @Sentence(promise = 25, says = "The pairs are in the order of the numbers of their left rows, then of their right rows.")
    private static void pairsDoNotFollowTheOrdersOfTheTables() {
        ColumnVault vault = twoTables();
        vault.sort(0, 0, true, true);
        vault.sort(1, 1, true, true);
        is(5, vault.join(0, 0, 1, 1, ColumnVault.INNER));
        pairs("1-0 1-3 3-0 3-3 4-2", vault, 5);
    }

    @Sentence(promise = 25, says = "They stay as they are until the next join.")
    private static void pairsStayWhenTheTablesChange() {
        ColumnVault vault = twoTables();
        vault.join(0, 0, 1, 1, ColumnVault.INNER);
        vault.remove(0, 1);
        vault.set(0, 0, 0, 9);
        vault.turnChoice(0);
        vault.sort(1, 0, true, true);
        vault.joinErrors(0, 0, 0, 0);
        vault.errors(0);
        vault.back(vault.version() - 11);
        pairs("1-0 1-3 3-0 3-3 4-2", vault, 5);
        argument(vault, () -> vault.join(0, 0, 0, 1, ColumnVault.INNER));
        pairs("1-0 1-3 3-0 3-3 4-2", vault, 5);
        is(1, vault.join(0, 0, 0, 0, ColumnVault.ANTI));
        pairs("2--1", vault, 1);
    }

    @Sentence(promise = 25, says = "- `right`: number of a table, which may be the same one")
    private static void joinATableWithItself() {
        ColumnVault vault = twoTables();
        is(7, vault.join(0, 0, 0, 0, ColumnVault.INNER));
        pairs("0-0 1-1 1-3 3-1 3-3 4-4 5-5", vault, 7);
        vault.addColumn(0, NUMBER);
        vault.set(0, 5, 2, 1);
        is(1, vault.join(0, 0, 0, 2, ColumnVault.INNER));
        pairs("0-5", vault, 1);
    }

    @Sentence(promise = 25, says = "- `how`: INNER, LEFT or ANTI")
    private static void joinInEachWay() {
        ColumnVault vault = twoTables();
        is(5, vault.join(0, 0, 1, 1, 0));
        is(8, vault.join(0, 0, 1, 1, 1));
        is(3, vault.join(0, 0, 1, 1, 2));
    }

    @Sentence(promise = 25, says = "Throws `IndexOutOfBoundsException` if there is no such table or column")
    private static void joinNoTableOrColumn() {
        ColumnVault vault = twoTables();
        noneBeside(3, vault, left -> vault.join(left, 0, 1, 1, 0));
        noneBeside(2, vault, column -> vault.join(0, column, 1, 1, 0));
        noneBeside(3, vault, right -> vault.join(0, 0, right, 1, 0));
        noneBeside(2, vault, other -> vault.join(0, 0, 1, other, 0));
        index(vault, () -> vault.join(0, 0, 2, 0, 0));
        index(vault, () -> vault.join(2, 0, 0, 0, 0));
    }

    @Sentence(promise = 25, says = "Throws `IllegalArgumentException` if both columns are not of the same kind, or how is out of range")
    private static void joinNumbersWithTextsOrInNoWay() {
        ColumnVault vault = twoTables();
        argument(vault, () -> vault.join(0, 0, 1, 0, ColumnVault.INNER));
        argument(vault, () -> vault.join(0, 1, 1, 1, ColumnVault.ANTI));
        argument(vault, () -> vault.join(0, 0, 0, 1, ColumnVault.LEFT));
        outOfRange(ColumnVault.INNER, ColumnVault.ANTI, vault, how -> vault.join(0, 0, 1, 1, how));
        outOfRange(ColumnVault.INNER, ColumnVault.ANTI, vault, how -> vault.join(0, 0, 1, 0, how));
        index(vault, () -> vault.pairAt(0, true));
    }

    // ---- 26. pairAt

    @Sentence(promise = 26, says = "- `isRight`: true for the row of the right table, false for that of the left one")
    private static void theLeftAndTheRightRow() {
        ColumnVault vault = numbers(40);
        vault.addColumn(1, NUMBER);
        vault.fill(1, 0, 39, -1, 40);
        is(40, vault.join(0, 0, 1, 0, ColumnVault.INNER));
        is(0, vault.pairAt(0, false));
        is(39, vault.pairAt(0, true));
        is(39, vault.pairAt(39, false));
        is(0, vault.pairAt(39, true));
    }

    @Sentence(promise = 26, says = "Returns the number of the row, or NONE.")
    private static void theRowsOfAPair() {
        ColumnVault vault = twoTables();
        vault.join(0, 0, 1, 1, ColumnVault.LEFT);
        is(0, vault.pairAt(0, false));
        is(NONE, vault.pairAt(0, true));
        is(1, vault.pairAt(2, false));
        is(3, vault.pairAt(2, true));
        is(5, vault.pairAt(7, false));
        is(NONE, vault.pairAt(7, true));
    }

    @Sentence(promise = 26, says = "Throws `IndexOutOfBoundsException` if there is no such pair")
    private static void noSuchPair() {
        ColumnVault vault = twoTables();
        noneBeside(0, vault, pair -> vault.pairAt(pair, true));
        vault.join(0, 0, 1, 1, ColumnVault.LEFT);
        noneBeside(8, vault, pair -> vault.pairAt(pair, true));
        noneBeside(8, vault, pair -> vault.pairAt(pair, false));
        // fewer pairs than before: those behind are there no more
        vault.join(0, 0, 1, 1, ColumnVault.ANTI);
        noneBeside(3, vault, pair -> vault.pairAt(pair, false));
        choose(vault, "#0 = 99");
        vault.join(0, 0, 1, 1, ColumnVault.ANTI);
        noneBeside(0, vault, pair -> vault.pairAt(pair, false));
    }

    // ---- 27. joinErrors

    @Sentence(promise = 27, says = "Returns how many pairs are not told by all three; always 0.")
    private static void joinErrorsOfEmptyFullAndMissingTables() {
        ColumnVault vault = twoTables();
        is(0, vault.joinErrors(0, 0, 1, 1));
        is(0, vault.joinErrors(0, 1, 1, 0));
        is(0, vault.joinErrors(1, 0, 1, 0));
        vault.turnChoice(1);
        is(0, vault.joinErrors(0, 0, 1, 1));
        vault.addColumn(2, NUMBER);
        is(0, vault.joinErrors(0, 0, 2, 0));
        is(0, vault.joinErrors(2, 0, 0, 0));
        is(0, vault.joinErrors(2, 0, 2, 0));
        vault.fill(2, 0, 2, 0, 40);
        is(0, vault.joinErrors(0, 0, 2, 0));
        is(0, vault.joinErrors(2, 0, 2, 0));
        ColumnVault missing = missingNumbers(40);
        is(0, missing.joinErrors(0, 0, 0, 0));
        ColumnVault falling = new ColumnVault();
        falling.addColumn(0, NUMBER);
        falling.fill(0, 0, 1000000, -1000, 40);
        is(0, falling.joinErrors(0, 0, 0, 0));
    }

    @Sentence(promise = 27, says = "Throws `IndexOutOfBoundsException` if there is no such table or column")
    private static void joinErrorsOfNoTableOrColumn() {
        ColumnVault vault = twoTables();
        noneBeside(3, vault, left -> vault.joinErrors(left, 0, 1, 1));
        noneBeside(2, vault, column -> vault.joinErrors(0, column, 1, 1));
        noneBeside(3, vault, right -> vault.joinErrors(0, 0, right, 1));
        noneBeside(2, vault, other -> vault.joinErrors(0, 0, 1, other));
        index(vault, () -> vault.joinErrors(0, 0, 2, 0));
    }

    @Sentence(promise = 27, says = "Throws `IllegalArgumentException` if both columns are not of the same kind")
    private static void joinErrorsOfNumbersAndTexts() {
        ColumnVault vault = twoTables();
        argument(vault, () -> vault.joinErrors(0, 0, 1, 0));
        argument(vault, () -> vault.joinErrors(0, 1, 1, 1));
        argument(vault, () -> vault.joinErrors(0, 1, 0, 0));
    }

    // ---- 28. group

    @Sentence(promise = 28, says = "one group for each value, the least one first, and behind them one for the rows in which it is missing, if there are any.")
    private static void theFewestAndTheMostGroups() {
        ColumnVault vault = new ColumnVault();
        vault.addColumn(0, NUMBER);
        is(0, vault.group(0, 0));
        groups("", vault, 0);
        vault.fill(0, 0, 39, -1, 40);
        is(40, vault.group(0, 0));
        is(0L, vault.groupAt(0, 0));
        is(39L, vault.groupAt(0, 2));
        is(39L, vault.groupAt(39, 0));
        vault.set(0, 39, 0, MISSING);
        is(40, vault.group(0, 0));
        is(1L, vault.groupAt(0, 0));
        is(MISSING, vault.groupAt(39, 0));
        is(39L, vault.groupAt(39, 3));
        ColumnVault equal = new ColumnVault();
        equal.addColumn(0, NUMBER);
        equal.fill(0, 0, -1000000, 0, 40);
        is(1, equal.group(0, 0));
        groups("-1000000 40 0 39", equal, 1);
    }

    @Sentence(promise = 28, says = "one group for each value, the least one first, and behind them one for the rows in which it is missing, if there are any.")
    private static void groupsOfTextsAndOfWhatIsMissing() {
        ColumnVault vault = fiveRows();
        is(4, vault.group(0, 1));
        groups("97 1 4 4 | 24930 1 2 2 | 98 1 0 0 | missing 2 1 3", vault, 4);
        choose(vault, "!#1 missing");
        is(3, vault.group(0, 1));
        groups("97 1 4 4 | 24930 1 2 2 | 98 1 0 0", vault, 3);
        vault.turnChoice(0);
        is(1, vault.group(0, 1));
        groups("missing 2 1 3", vault, 1);
        choose(vault, "#0 > 99");
        is(0, vault.group(0, 1));
        groups("", vault, 0);
    }

    @Sentence(promise = 28, says = "The groups stay as they are until the next call of this method (rows by the numbers that they have now).")
    private static void groupsStayWhenTheTableChanges() {
        ColumnVault vault = fiveRows();
        vault.sort(0, 0, false, false);
        vault.group(0, 1);
        vault.sort(0, 0, true, false);
        vault.set(0, 1, 0, 100);
        vault.remove(0, 0);
        vault.turnChoice(0);
        vault.addColumn(0, NUMBER);
        vault.errors(0);
        index(vault, () -> vault.group(0, 3));
        groups("97 1 4 4 | 24930 1 2 2 | 98 1 0 0 | missing 2 3 1", vault, 4);
        is(2L, vault.groupTotal(3, 0, 1));
        is(3L, vault.groupTotal(2, 0, 1));
        index(vault, () -> vault.groupTotal(0, 2, 0));
        is(0, vault.group(0, 1));
        groups("", vault, 0);
        index(vault, () -> vault.groupTotal(0, 0, 0));
    }

    @Sentence(promise = 28, says = "Throws `IndexOutOfBoundsException` if there is no such table or column")
    private static void groupNoTableOrColumn() {
        ColumnVault vault = fiveRows();
        noneBeside(3, vault, table -> vault.group(table, 0));
        noneBeside(2, vault, column -> vault.group(0, column));
        index(vault, () -> vault.group(1, 0));
        index(vault, () -> vault.groupAt(0, 0));
        is(5, vault.group(0, 0));
    }

    // ---- 29. groupAt

    @Sentence(promise = 29, says = "- `what`: 0 for its value, or MISSING, 1 for how many rows it had, 2 for the first one of them by the order of the table as it was, 3 for the last one")
    private static void aboutGroupsOfOneRowAndOfMore() {
        ColumnVault vault = vault(row(1, "a"), row(2, "b"), row(1, "c"), row(null, "d"), row(1, "e"), row(null, "f"));
        vault.sort(0, 1, true, false);
        is(3, vault.group(0, 0));
        groups("1 3 4 0 | 2 1 1 1 | missing 2 5 3", vault, 3);
        vault.sort(0, 1, false, false);
        groups("1 3 4 0 | 2 1 1 1 | missing 2 5 3", vault, 3);
        vault.group(0, 0);
        groups("1 3 0 4 | 2 1 1 1 | missing 2 3 5", vault, 3);
    }

    @Sentence(promise = 29, says = "Throws `IndexOutOfBoundsException` if there is no such group")
    private static void noSuchGroup() {
        ColumnVault vault = fiveRows();
        noneBeside(0, vault, group -> vault.groupAt(group, 0));
        vault.group(0, 1);
        noneBeside(4, vault, group -> vault.groupAt(group, 0));
        vault.turnChoice(0);
        vault.group(0, 1);
        noneBeside(0, vault, group -> vault.groupAt(group, 0));
    }

    @Sentence(promise = 29, says = "Throws `IllegalArgumentException` if what is out of range")
    private static void nothingAboutAGroup() {
        ColumnVault vault = fiveRows();
        vault.group(0, 1);
        outOfRange(0, 3, vault, what -> vault.groupAt(0, what));
        outOfRange(0, 3, vault, what -> vault.groupAt(3, what));
    }

    // ---- 30. total

    private static String totals(ColumnVault vault, int column) {
        StringBuilder told = new StringBuilder();
        for (int what = 0; what <= 5; what++) {
            told.append(what > 0 ? " " : "").append(vault.total(0, column, what));
        }
        return told.toString();
    }

    @Sentence(promise = 30, says = "Returns something about the values of a column that are not missing, in the chosen rows of a table.")
    private static void missingValuesAndOtherRowsDoNotCount() {
        ColumnVault vault = vault(row(4, "b"), row(-1, null), row(4, "ab"), row(null, "a"), row(9, "b"));
        is("4 16 -1 9 4 3", totals(vault, 0));
        choose(vault, "#0 missing | #0 < 4");
        is("1 -1 -1 -1 -1 1", totals(vault, 0));
        is(1L, vault.total(0, 1, 0));
        is(97L, vault.total(0, 1, 3));
    }

    @Sentence(promise = 30, says = "4 for the one in the middle: of n values in rising order that at the place (n - 1) / 2, rounded down")
    private static void theMiddleOfOddAndEvenManyValues() {
        ColumnVault vault = vault(row(9, "b"), row(1, "a"), row(5, "aa"), row(5, "z"), row(7, null));
        is(5L, vault.total(0, 0, 4));
        is(word("aa"), vault.total(0, 1, 4));
        for (int[] due : new int[][] {{1, 1}, {5, 5}, {7, 5}, {9, 5}}) {
            choose(vault, "#0 to 1 " + due[0]);
            is((long) due[1], vault.total(0, 0, 4));
        }
        choose(vault, "#0 in 1 9");
        is(1L, vault.total(0, 0, 4));
        choose(vault, "#0 in 1 7 9");
        is(7L, vault.total(0, 0, 4));
        choose(vault, "#0 = 9");
        is(9L, vault.total(0, 0, 4));
        ColumnVault full = numbers(40);
        is(19L, full.total(0, 0, 4));
    }

    @Sentence(promise = 30, says = "1 for their sum (only for the kind NUMBER)")
    private static void theGreatestAndTheLeastSum() {
        ColumnVault vault = new ColumnVault();
        vault.addColumn(0, NUMBER);
        is(0L, vault.total(0, 0, 1));
        vault.fill(0, 0, 1000000, 0, 40);
        is("40 40000000 1000000 1000000 1000000 1", totals(vault, 0));
        vault.back(1);
        vault.fill(0, 0, -1000000, 0, 40);
        is("40 -40000000 -1000000 -1000000 -1000000 1", totals(vault, 0));
    }

    @Sentence(promise = 30, says = "5 for how many different ones there are")
    private static void differentValues() {
        ColumnVault vault = vault(row(9, "b"), row(1, "b"), row(9, null), row(null, "bb"), row(1, "b"));
        is(2L, vault.total(0, 0, 5));
        is(2L, vault.total(0, 1, 5));
        vault.turnChoice(0);
        is(0L, vault.total(0, 0, 5));
        is(40L, numbers(40).total(0, 0, 5));
        is(0L, missingNumbers(3).total(0, 0, 5));
    }

    @Sentence(promise = 30, says = "Throws `IndexOutOfBoundsException` if there is no such table or column")
    private static void totalOfNoTableOrColumn() {
        ColumnVault vault = fiveRows();
        noneBeside(3, vault, table -> vault.total(table, 0, 0));
        noneBeside(2, vault, column -> vault.total(0, column, 0));
        index(vault, () -> vault.total(1, 0, 0));
    }

    @Sentence(promise = 30, says = "Throws `IllegalArgumentException` if what is out of range, or 1 for a column of the kind TEXT")
    private static void noSuchTotal() {
        ColumnVault vault = fiveRows();
        outOfRange(0, 5, vault, what -> vault.total(0, 0, what));
        outOfRange(0, 5, vault, what -> vault.total(0, 1, what));
        argument(vault, () -> vault.total(0, 1, 1));
        is(3L, vault.total(0, 1, 0));
        is(3L, vault.total(0, 1, 5));
        vault.turnChoice(0);
        argument(vault, () -> vault.total(0, 1, 1));
        outOfRange(0, 5, vault, what -> vault.total(0, 1, what));
    }

    @Sentence(promise = 30, says = "Throws `NoSuchElementException` if what is 2, 3 or 4, and there is none")
    private static void totalsOfNothing() {
        ColumnVault vault = fiveRows();
        choose(vault, "#1 missing");
        for (int what = 2; what <= 4; what++) {
            int about = what;
            element(vault, () -> vault.total(0, 1, about));
        }
        is(0L, vault.total(0, 1, 0));
        is(0L, vault.total(0, 1, 5));
        vault.addColumn(1, NUMBER);
        for (int what = 2; what <= 4; what++) {
            int about = what;
            element(vault, () -> vault.total(1, 0, about));
        }
        is(0L, vault.total(1, 0, 0));
        is(0L, vault.total(1, 0, 1));
        is(0L, vault.total(1, 0, 5));
    }

    // ---- 31. groupTotal

    @Sentence(promise = 31, says = "Returns something about the values of a column that are not missing, in the rows of a group, as they were when it was made.")
    private static void totalsOfRowsAsTheyWere() {
        ColumnVault vault = vault(row(4, "b"), row(-1, null), row(6, "b"), row(null, "a"), row(4, "b"), row(null, "b"));
        vault.group(0, 1);
        is("3 14 4 6 4 2", groupTotals(vault, 1));
        is("1 -1 -1 -1 -1 1", groupTotals(vault, 2));
        vault.set(0, 0, 0, 100);
        vault.remove(0, 2);
        vault.turnChoice(0);
        vault.back(vault.version() - 11);
        is("3 14 4 6 4 2", groupTotals(vault, 1));
        is("1 -1 -1 -1 -1 1", groupTotals(vault, 2));
        is(4L, vault.groupTotal(1, 1, 0));
        is(98L, vault.groupTotal(1, 1, 4));
        is(0L, vault.groupTotal(2, 1, 5));
    }

    private static String groupTotals(ColumnVault vault, int group) {
        StringBuilder told = new StringBuilder();
        for (int what = 0; what <= 5; what++) {
            told.append(what > 0 ? " " : "").append(vault.groupTotal(group, 0, what));
        }
        return told.toString();
    }

    @Sentence(promise = 31, says = "- `column`: number of a column of the table, as it was then")
    private static void columnsOfThen() {
        ColumnVault vault = numbers(3);
        vault.group(0, 0);
        vault.addColumn(0, NUMBER);
        index(vault, () -> vault.groupTotal(0, 1, 0));
        vault.back(0);
        is(2L, vault.groupTotal(2, 0, 1));
        vault.addColumn(0, TEXT);
        is(2L, vault.groupTotal(2, 0, 1));
        index(vault, () -> vault.groupTotal(2, 1, 0));
    }

    @Sentence(promise = 31, says = "- `what`: as for total()")
    private static void groupTotalsAsTotals() {
        ColumnVault vault = vault(row(1000000, "b"), row(1000000, "b"), row(null, "b"), row(-1000000, "b"), row(2, "b"), row(3, "b"));
        vault.group(0, 1);
        is("5 1000005 -1000000 1000000 3 4", groupTotals(vault, 0));
        is(totals(vault, 0), groupTotals(vault, 0));
        vault.remove(0, 5);
        vault.group(0, 1);
        is("4 1000002 -1000000 1000000 2 3", groupTotals(vault, 0));
        is(totals(vault, 0), groupTotals(vault, 0));
    }

    @Sentence(promise = 31, says = "Throws `IndexOutOfBoundsException` if there is no such group or column")
    private static void groupTotalOfNothing() {
        ColumnVault vault = fiveRows();
        noneBeside(0, vault, group -> vault.groupTotal(group, 0, 0));
        vault.group(0, 1);
        noneBeside(4, vault, group -> vault.groupTotal(group, 0, 0));
        noneBeside(2, vault, column -> vault.groupTotal(0, column, 0));
    }

    @Sentence(promise = 31, says = "Throws `IllegalArgumentException` if what is out of range, or 1 for a column of the kind TEXT")
    private static void noSuchGroupTotal() {
        ColumnVault vault = fiveRows();
        vault.group(0, 1);
        outOfRange(0, 5, vault, what -> vault.groupTotal(0, 0, what));
        outOfRange(0, 5, vault, what -> vault.groupTotal(3, 1, what));
        argument(vault, () -> vault.groupTotal(0, 1, 1));
        argument(vault, () -> vault.groupTotal(3, 1, 1));
    }

    @Sentence(promise = 31, says = "Throws `NoSuchElementException` if what is 2, 3 or 4, and there is none")
    private static void groupTotalsOfNoValues() {
        ColumnVault vault = fiveRows();
        vault.group(0, 1);
        for (int what = 2; what <= 4; what++) {
            int about = what;
            element(vault, () -> vault.groupTotal(3, 1, about));
        }
        is(0L, vault.groupTotal(3, 1, 0));
        is(0L, vault.groupTotal(3, 1, 5));
        is(2L, vault.groupTotal(3, 0, 1));
    }

    // ---- 32. running

    @Sentence(promise = 32, says = "Adds up the numbers of a column that are not missing, in the rows from the first place of the order of a table up to a place.")
    private static void sumsUpToTheFirstAndTheLastPlace() {
        ColumnVault vault = vault(row(4, "b"), row(-1, null), row(null, "b"), row(7, "a"));
        vault.turnChoice(0);
        is(4L, vault.running(0, 0, 0));
        is(3L, vault.running(0, 0, 2));
        is(10L, vault.running(0, 0, 3));
        vault.sort(0, 0, true, true);
        is(0L, vault.running(0, 0, 0));
        is(7L, vault.running(0, 0, 1));
        is(10L, vault.running(0, 0, 3));
        ColumnVault full = new ColumnVault();
        full.addColumn(0, NUMBER);
        full.fill(0, 0, -1000000, 0, 40);
        is(-1000000L, full.running(0, 0, 0));
        is(-40000000L, full.running(0, 0, 39));
    }

    @Sentence(promise = 32, says = "Throws `IndexOutOfBoundsException` if there is no such table, column or place")
    private static void runningNowhere() {
        ColumnVault vault = fiveRows();
        noneBeside(3, vault, table -> vault.running(table, 0, 0));
        noneBeside(2, vault, column -> vault.running(0, column, 0));
        noneBeside(5, vault, place -> vault.running(0, 0, place));
        vault.addColumn(1, NUMBER);
        index(vault, () -> vault.running(1, 0, 0));
    }

    @Sentence(promise = 32, says = "Throws `IllegalArgumentException` if the column is of the kind TEXT")
    private static void runningSumOfTexts() {
        ColumnVault vault = fiveRows();
        argument(vault, () -> vault.running(0, 1, 0));
        argument(vault, () -> vault.running(0, 1, 4));
    }

    // ---- 33. rank

    @Sentence(promise = 33, says = "among all rows of the table with the same value of another column (or in which that is missing, too).")
    private static void ranksAmongRowsWithAValueAndWithNone() {
        ColumnVault vault = vault(row(4, "b"), row(-1, null), row(2, "b"), row(4, "a"), row(5, "b"), row(4, "b"), row(7, null), row(null, "b"));
        vault.turnChoice(0);
        vault.sort(0, 0, true, false);
        int[] ranks = {2, 1, 1, 1, 4, 2, 2};
        for (int row = 0; row < ranks.length; row++) {
            is(ranks[row], vault.rank(0, 1, 0, row));
        }
        // the other column may be the same one
        is(1, vault.rank(0, 0, 0, 6));
        is(1, vault.rank(0, 1, 1, 3));
    }

    @Sentence(promise = 33, says = "Returns 1 and how many of these rows have a lesser value of the column.")
    private static void theFirstRankAndTheLast() {
        ColumnVault vault = numbers(39);
        vault.addColumn(0, NUMBER);
        vault.addRow(0);
        is(1, vault.rank(0, 1, 0, 0));
        is(39, vault.rank(0, 1, 0, 38));
        vault.set(0, 39, 0, 1000000);
        is(40, vault.rank(0, 1, 0, 39));
        vault.set(0, 0, 1, 5);
        is(39, vault.rank(0, 1, 0, 39));
        is(1, vault.rank(0, 1, 0, 0));
        vault.set(0, 39, 0, 38);
        is(38, vault.rank(0, 1, 0, 39));
        is(38, vault.rank(0, 1, 0, 38));
    }

    @Sentence(promise = 33, says = "Throws `IndexOutOfBoundsException` if there is no such table, column or row")
    private static void rankOfNothing() {
        ColumnVault vault = fiveRows();
        noneBeside(3, vault, table -> vault.rank(table, 1, 0, 0));
        noneBeside(2, vault, by -> vault.rank(0, by, 0, 0));
        noneBeside(2, vault, column -> vault.rank(0, 1, column, 0));
        noneBeside(5, vault, row -> vault.rank(0, 1, 0, row));
        vault.addColumn(1, NUMBER);
        index(vault, () -> vault.rank(1, 0, 0, 0));
    }

    @Sentence(promise = 33, says = "Throws `NoSuchElementException` if the value of the column is missing in the row")
    private static void rankOfAMissingValue() {
        ColumnVault vault = fiveRows();
        element(vault, () -> vault.rank(0, 0, 1, 1));
        element(vault, () -> vault.rank(0, 1, 1, 3));
        is(1, vault.rank(0, 1, 0, 3));
        is(1, vault.rank(0, 0, 1, 0));
    }

    // ---- 34. previous

    @Sentence(promise = 34, says = "Returns the nearest row ahead of a row, in the order of the table, with the same value of a column (or in which that is missing, too).")
    private static void theNearestRowAheadWithAValueAndWithNone() {
        ColumnVault vault = vault(row(4, "b"), row(-1, null), row(2, "b"), row(4, "a"), row(5, "b"), row(7, null));
        vault.turnChoice(0);
        is(0, vault.previous(0, 1, 2));
        is(2, vault.previous(0, 1, 4));
        is(1, vault.previous(0, 1, 5));
        vault.sort(0, 0, true, false);
        order("5 4 0 3 2 1", vault);
        is(4, vault.previous(0, 1, 0));
        is(5, vault.previous(0, 1, 1));
        is(0, vault.previous(0, 1, 2));
    }

    @Sentence(promise = 34, says = "Returns the number of that row; NONE if there is none.")
    private static void noRowAhead() {
        ColumnVault vault = vault(row(4, "b"), row(-1, null), row(2, "b"), row(4, "a"), row(5, "b"), row(7, null));
        is(NONE, vault.previous(0, 1, 0));
        is(NONE, vault.previous(0, 1, 1));
        is(NONE, vault.previous(0, 1, 3));
        vault.sort(0, 0, true, false);
        is(NONE, vault.previous(0, 1, 5));
        is(NONE, vault.previous(0, 1, 4));
        is(NONE, vault.previous(0, 0, 1));
        ColumnVault full = missingNumbers(40);
        is(NONE, full.previous(0, 0, 0));
        is(0, full.previous(0, 0, 1));
        is(38, full.previous(0, 0, 39));
    }

    @Sentence(promise = 34, says = "Throws `IndexOutOfBoundsException` if there is no such table, column or row")
    private static void previousOfNothing() {
        ColumnVault vault = fiveRows();
        noneBeside(3, vault, table -> vault.previous(table, 0, 0));
        noneBeside(2, vault, by -> vault.previous(0, by, 0));
        noneBeside(5, vault, row -> vault.previous(0, 0, row));
        vault.addColumn(1, NUMBER);
        index(vault, () -> vault.previous(1, 0, 0));
    }

    // ---- 35. between

    @Sentence(promise = 35, says = "Counts the rows of a table whose value of a column is from one value to another one.")
    private static void bothLimitsCount() {
        ColumnVault vault = fiveRows();
        vault.turnChoice(0);
        is(3, vault.between(0, 0, 0, 2));
        is(1, vault.between(0, 0, 3, 3));
        is(5, vault.between(0, 0, -1, 3));
        is(5, vault.between(0, 0, -1000000, 1000000));
        is(0, vault.between(0, 0, 4, 1000000));
        is(3, vault.between(0, 1, 'a', 'b'));
        is(1, vault.between(0, 1, word("aa"), word("azzzzzz")));
        is(3, vault.between(0, 1, 'a', word("zzzzzzz")));
    }

    @Sentence(promise = 35, says = "- `from`: a value of the kind of the column")
    private static void betweenFromNoValue() {
        ColumnVault vault = fiveRows();
        for (long from : new long[] {MISSING, -1000001, 1000001, Long.MIN_VALUE, Long.MAX_VALUE}) {
            argument(vault, () -> vault.between(0, 0, from, 0));
        }
        for (long from : new long[] {MISSING, 0, 5, 96, 123, word("aaaaaaaa")}) {
            argument(vault, () -> vault.between(0, 1, from, 'b'));
        }
        is(4, vault.between(0, 0, -1000000, 2));
    }

    @Sentence(promise = 35, says = "- `to`: a value of the kind of the column")
    private static void betweenToNoValue() {
        ColumnVault vault = fiveRows();
        for (long to : new long[] {MISSING, -1000001, 1000001, Long.MIN_VALUE, Long.MAX_VALUE}) {
            argument(vault, () -> vault.between(0, 0, 0, to));
        }
        for (long to : new long[] {MISSING, 0, 5, 96, 123, word("aaaaaaaa")}) {
            argument(vault, () -> vault.between(0, 1, 'a', to));
        }
        is(2, vault.between(0, 0, 2, 1000000));
    }

    @Sentence(promise = 35, says = "Returns how many there are (0 if to is less than from).")
    private static void betweenFromTheGreaterToTheLess() {
        ColumnVault vault = fiveRows();
        is(0, vault.between(0, 0, 3, -1));
        is(0, vault.between(0, 0, 1, 0));
        is(0, vault.between(0, 0, 1000000, -1000000));
        is(0, vault.between(0, 1, 'b', word("ab")));
        is(0, vault.between(0, 1, word("ab"), 'a'));
        vault.addColumn(1, NUMBER);
        is(0, vault.between(1, 0, -1000000, 1000000));
        is(0, missingNumbers(40).between(0, 0, -1000000, 1000000));
        is(40, numbers(40).between(0, 0, 0, 39));
        is(38, numbers(40).between(0, 0, 1, 38));
    }

    @Sentence(promise = 35, says = "Throws `IndexOutOfBoundsException` if there is no such table or column")
    private static void betweenInNoTableOrColumn() {
        ColumnVault vault = fiveRows();
        noneBeside(3, vault, table -> vault.between(table, 0, 0, 1));
        noneBeside(2, vault, column -> vault.between(0, column, 0, 1));
        index(vault, () -> vault.between(1, 0, 0, 1));
    }

    @Sentence(promise = 35, says = "Throws `IllegalArgumentException` if from or to is no such value")
    private static void betweenNoValues() {
        ColumnVault vault = fiveRows();
        argument(vault, () -> vault.between(0, 0, 1000001, -1000001));
        argument(vault, () -> vault.between(0, 0, 'a' + (98L << 32), 0));
        argument(vault, () -> vault.between(0, 1, 1, 1));
        argument(vault, () -> vault.between(0, 1, 'A', 'Z'));
    }

    // ---- 36. nearest

    @Sentence(promise = 36, says = "Returns the greatest value of a column that is not greater than a value, or the least one that is not less, of all rows.")
    private static void theValueItselfAndItsNeighbours() {
        ColumnVault vault = vault(row(4, "b"), row(-1, null), row(null, "ab"), row(9, "d"), row(-1000000, "zzzzzzz"));
        vault.turnChoice(0);
        is(4L, vault.nearest(0, 0, 4, true));
        is(4L, vault.nearest(0, 0, 4, false));
        is(-1L, vault.nearest(0, 0, 3, true));
        is(9L, vault.nearest(0, 0, 5, false));
        is(9L, vault.nearest(0, 0, 1000000, true));
        is(-1000000L, vault.nearest(0, 0, -1000000, false));
        is(-1000000L, vault.nearest(0, 0, -1000000, true));
        is(word("ab"), vault.nearest(0, 1, word("azzzzzz"), true));
        is(word("b"), vault.nearest(0, 1, word("azzzzzz"), false));
        is(word("ab"), vault.nearest(0, 1, 'a', false));
        is(word("zzzzzzz"), vault.nearest(0, 1, word("zzzzzzz"), true));
        is(word("zzzzzzz"), vault.nearest(0, 1, word("zzzzzzz"), false));
    }

    @Sentence(promise = 36, says = "- `value`: a value of the kind of the column")
    private static void nearestToTheLeastAndTheGreatestValues() {
        ColumnVault vault = vault(row(5, "m"));
        is(5L, vault.nearest(0, 0, 1000000, true));
        is(5L, vault.nearest(0, 0, -1000000, false));
        is(109L, vault.nearest(0, 1, word("zzzzzzz"), true));
        is(109L, vault.nearest(0, 1, 'a', false));
        is(109L, vault.nearest(0, 1, 'm', true));
        element(vault, () -> vault.nearest(0, 1, word("ma"), false));
        element(vault, () -> vault.nearest(0, 1, word("lzzzzzz"), true));
    }

    @Sentence(promise = 36, says = "- `isBelow`: true for one that is not greater, false for one that is not less")
    private static void belowAndAbove() {
        ColumnVault vault = vault(row(1, "a"), row(3, "c"));
        is(1L, vault.nearest(0, 0, 2, true));
        is(3L, vault.nearest(0, 0, 2, false));
        is(97L, vault.nearest(0, 1, 'b', true));
        is(99L, vault.nearest(0, 1, 'b', false));
    }

    @Sentence(promise = 36, says = "Throws `IndexOutOfBoundsException` if there is no such table or column")
    private static void nearestInNoTableOrColumn() {
        ColumnVault vault = fiveRows();
        noneBeside(3, vault, table -> vault.nearest(table, 0, 0, true));
        noneBeside(2, vault, column -> vault.nearest(0, column, 0, true));
        index(vault, () -> vault.nearest(1, 0, 0, true));
    }

    @Sentence(promise = 36, says = "Throws `IllegalArgumentException` if value is no such value")
    private static void nearestToNoValue() {
        ColumnVault vault = fiveRows();
        for (long value : new long[] {MISSING, -1000001, 1000001, Long.MIN_VALUE, Long.MAX_VALUE}) {
            argument(vault, () -> vault.nearest(0, 0, value, true));
        }
        for (long value : new long[] {MISSING, 0, 5, 96, 123, word("aaaaaaaa"), word("a") << 8}) {
            argument(vault, () -> vault.nearest(0, 1, value, false));
        }
    }

    @Sentence(promise = 36, says = "Throws `NoSuchElementException` if there is none")
    private static void nothingIsNear() {
        ColumnVault vault = fiveRows();
        element(vault, () -> vault.nearest(0, 0, -2, true));
        element(vault, () -> vault.nearest(0, 0, 4, false));
        element(vault, () -> vault.nearest(0, 1, word("ba"), false));
        vault.set(0, 4, 1, 'c');
        element(vault, () -> vault.nearest(0, 1, 'a', true));
        vault.addColumn(1, NUMBER);
        element(vault, () -> vault.nearest(1, 0, 1000000, true));
        ColumnVault missing = missingNumbers(3);
        element(missing, () -> missing.nearest(0, 0, 1000000, true));
        element(missing, () -> missing.nearest(0, 0, -1000000, false));
    }

    // ---- 37. alike

    private static String alike(ColumnVault vault, int table, int other) {
        return vault.alike(table, other, 0) + " " + vault.alike(table, other, 1) + " " + vault.alike(table, other, 2) + " "
            + vault.alike(table, other, 3);
    }

    private static ColumnVault alikeTables() {
        ColumnVault vault = vault(row(1, "a"), row(1, "a"), row(1, null), row(1, "a"), row(null, null), row(2, "b"), row(null, "a"));
        vault.addColumn(1, NUMBER);
        vault.addColumn(1, TEXT);
        addRow(vault, 1, 1, "a");
        addRow(vault, 1, null, null);
        addRow(vault, 1, 1, "a");
        addRow(vault, 1, 3, "c");
        addRow(vault, 1, null, null);
        return vault;
    }

    @Sentence(promise = 37, says = "Compares the chosen rows of two tables whose columns are of the same kinds, one by one.")
    private static void compareNoneSomeAndAllRows() {
        ColumnVault vault = alikeTables();
        is("4 6 2 3", alike(vault, 0, 1));
        vault.turnChoice(1);
        is("7 5 0 5", alike(vault, 0, 1));
        is("0 5 0 0", alike(vault, 1, 0));
        vault.turnChoice(0);
        is("0 0 0 0", alike(vault, 0, 1));
        vault.turnChoice(1);
        is("0 3 0 0", alike(vault, 0, 1));
        choose(vault, "#0 = 1");
        is("2 4 1 1", alike(vault, 0, 1));
    }

    @Sentence(promise = 37, says = "Two rows are alike if they have the same value, or it is missing in both, in each column.")
    private static void missingInBothIsAlikeMissingInOneIsNot() {
        ColumnVault vault = vault(row(null, null), row(null, "a"), row(0, null), row(0, "a"));
        vault.addColumn(1, NUMBER);
        vault.addColumn(1, TEXT);
        addRow(vault, 1, null, null);
        is("3 4 1 3", alike(vault, 0, 1));
        is("0 4 1 0", alike(vault, 1, 0));
        vault.set(1, 0, 1, 'a');
        is("3 4 1 3", alike(vault, 0, 1));
        vault.set(1, 0, 0, 1);
        is("4 5 0 4", alike(vault, 0, 1));
    }

    @Sentence(promise = 37, says = "Two rows are alike if they have the same value, or it is missing in both, in each column.")
    private static void withoutColumnsAllRowsAreAlike() {
        ColumnVault vault = new ColumnVault();
        vault.addRow(0);
        vault.addRow(0);
        vault.addRow(1);
        is("1 1 1 0", alike(vault, 0, 1));
        is("0 1 1 0", alike(vault, 1, 0));
        is("2 1 0 1", alike(vault, 0, 2));
        is("0 0 0 0", alike(vault, 2, 2));
    }

    @Sentence(promise = 37, says = "- `other`: number of a table, which may be the same one")
    private static void compareATableWithItself() {
        ColumnVault vault = alikeTables();
        is("0 5 5 0", alike(vault, 0, 0));
        is("0 3 3 0", alike(vault, 1, 1));
        vault.turnChoice(0);
        is("0 0 0 0", alike(vault, 0, 0));
        is("0 40 40 0", alike(numbers(40), 0, 0));
        is("0 1 1 0", alike(missingNumbers(40), 0, 0));
    }

    @Sentence(promise = 37, says = "0 for the rows of the first one that are left if one row that is alike is taken away for each row of the second one, as long as there is one")
    private static void rowsAreTakenAwayOneByOne() {
        ColumnVault vault = new ColumnVault();
        vault.addColumn(0, NUMBER);
        vault.addColumn(1, NUMBER);
        vault.fill(0, 0, 5, 0, 3);
        vault.fill(1, 0, 5, 0, 2);
        is(1, vault.alike(0, 1, 0));
        is(0, vault.alike(1, 0, 0));
        vault.fill(1, 0, 5, 0, 2);
        is(0, vault.alike(0, 1, 0));
        is(1, vault.alike(1, 0, 0));
        vault.fill(0, 0, 5, 0, 37);
        is(36, vault.alike(0, 1, 0));
        is(0, vault.alike(1, 0, 0));
        vault.fill(1, 0, 6, 0, 36);
        is(36, vault.alike(0, 1, 0));
        is(36, vault.alike(1, 0, 0));
    }

    @Sentence(promise = 37, says = "1 for the different rows of both together, 2 for the different rows that both have, 3 for the different rows of the first one alone")
    private static void differentRowsOfFullTables() {
        ColumnVault vault = numbers(40);
        vault.addColumn(1, NUMBER);
        vault.fill(1, 0, 39, 1, 40);
        is("39 79 1 39", alike(vault, 0, 1));
        is("39 79 1 39", alike(vault, 1, 0));
    }

    @Sentence(promise = 37, says = "Throws `IndexOutOfBoundsException` if there is no such table")
    private static void compareNoTables() {
        ColumnVault vault = alikeTables();
        noneBeside(3, vault, table -> vault.alike(table, 0, 0));
        noneBeside(3, vault, other -> vault.alike(0, other, 0));
    }

    @Sentence(promise = 37, says = "Throws `IllegalArgumentException` if the columns are not as many, or not of the same kinds, or what is out of range")
    private static void compareTablesWithOtherColumns() {
        ColumnVault vault = alikeTables();
        argument(vault, () -> vault.alike(0, 2, 0));
        argument(vault, () -> vault.alike(2, 0, 0));
        vault.addColumn(2, NUMBER);
        argument(vault, () -> vault.alike(0, 2, 0));
        argument(vault, () -> vault.alike(2, 0, 0));
        vault.addColumn(2, NUMBER);
        argument(vault, () -> vault.alike(0, 2, 0));
        vault.addColumn(0, NUMBER);
        argument(vault, () -> vault.alike(0, 1, 0));
        ColumnVault turned = vault();
        turned.addColumn(1, TEXT);
        turned.addColumn(1, NUMBER);
        for (int what = 0; what <= 3; what++) {
            int about = what;
            argument(turned, () -> turned.alike(0, 1, about));
            is(0, turned.alike(0, 0, about));
        }
    }

    @Sentence(promise = 37, says = "Throws `IllegalArgumentException` if the columns are not as many, or not of the same kinds, or what is out of range")
    private static void compareInNoWay() {
        ColumnVault vault = alikeTables();
        outOfRange(0, 3, vault, what -> vault.alike(0, 1, what));
        outOfRange(0, 3, vault, what -> vault.alike(2, 2, what));
    }

    // ---- 38. errors

    @Sentence(promise = 38, says = "and the rows from each of its values to each other one; nothing changes.")
    private static void errorsChangesNothing() {
        ColumnVault vault = vault(row(4, "b"), row(-1, null), row(2, "b"), row(4, "a"), row(null, "b"), row(null, null));
        vault.sort(0, 1, true, true);
        choose(vault, "#0 < 3");
        vault.group(0, 0);
        vault.join(0, 0, 0, 0, ColumnVault.INNER);
        int before = vault.version();
        is(0, vault.errors(0));
        is(before, vault.version());
        order("1 5 0 2 4 3", vault);
        is("1 2", chosen(vault));
        is("4 -1 2 4 missing missing", column(vault, 0, 0));
        groups("-1 1 1 1 | 2 1 2 2", vault, 2);
        pairs("1-1 2-2", vault, 2);
        is(6, vault.type(0));
    }

    @Sentence(promise = 38, says = "Returns how many of these checks fail; always 0.")
    private static void errorsOfEmptyFullAndMissingTables() {
        is(0, new ColumnVault().errors(0));
        is(0, numbers(40).errors(0));
        is(0, missingNumbers(40).errors(0));
        ColumnVault vault = new ColumnVault();
        vault.addRow(1);
        is(0, vault.errors(1));
        for (int column = 0; column < 4; column++) {
            vault.addColumn(1, column % 2);
            vault.addColumn(2, (column + 1) % 2);
        }
        is(0, vault.errors(1));
        is(0, vault.errors(2));
        vault.fill(1, 2, 1000000, -1000, 38);
        vault.fill(1, 0, -1000000, 0, 1);
        vault.set(1, 20, 1, word("zzzzzzz"));
        vault.set(1, 7, 3, 'a');
        vault.sort(1, 2, false, true);
        is(0, vault.errors(1));
        vault.turnChoice(1);
        is(0, vault.errors(1));
    }

    @Sentence(promise = 38, says = "Throws `IndexOutOfBoundsException` if there is no such table")
    private static void errorsOfNoTable() {
        ColumnVault vault = fiveRows();
        noneBeside(3, vault, table -> vault.errors(table));
        is(0, vault.errors(2));
    }

    // ---- 39. meanOf

    @Sentence(promise = 39, says = "Returns their sum, converted to double, divided by how many there are, converted to double; 0.0 if there are none.")
    private static void meansOfNoneOneAndMoreNumbers() {
        ColumnVault vault = vault(row(4, "b"), row(-1, null), row(null, "b"), row(7, "a"), row(1, "a"));
        is(2.75, vault.meanOf(0, 0));
        choose(vault, "#0 missing | #0 < 5");
        is(4.0 / 3.0, vault.meanOf(0, 0));
        choose(vault, "#0 = -1");
        is(-1.0, vault.meanOf(0, 0));
        choose(vault, "#0 in -1 1");
        is(0.0, vault.meanOf(0, 0));
        choose(vault, "#0 missing");
        is(0.0, vault.meanOf(0, 0));
        choose(vault, "#0 > 99");
        is(0.0, vault.meanOf(0, 0));
        vault.addColumn(1, NUMBER);
        is(0.0, vault.meanOf(1, 0));
        vault.fill(1, 0, 1000000, 0, 40);
        is(1000000.0, vault.meanOf(1, 0));
        vault.set(1, 0, 0, 999999);
        is(39999999.0 / 40.0, vault.meanOf(1, 0));
    }

    @Sentence(promise = 39, says = "Throws `IndexOutOfBoundsException` if there is no such table or column")
    private static void meanOfNothing() {
        ColumnVault vault = fiveRows();
        noneBeside(3, vault, table -> vault.meanOf(table, 0));
        noneBeside(2, vault, column -> vault.meanOf(0, column));
        index(vault, () -> vault.meanOf(1, 0));
    }

    @Sentence(promise = 39, says = "Throws `IllegalArgumentException` if the column is of the kind TEXT")
    private static void meanOfTexts() {
        ColumnVault vault = fiveRows();
        argument(vault, () -> vault.meanOf(0, 1));
        vault.turnChoice(0);
        argument(vault, () -> vault.meanOf(0, 1));
    }

    // ---- 40. chosenShare

    @Sentence(promise = 40, says = "Returns how many are chosen, converted to float, divided by how many rows there are, converted to float; 0.0f without rows.")
    private static void sharesOfNoneSomeAndAllRows() {
        ColumnVault vault = numbers(40);
        is(1.0f, vault.chosenShare(0));
        choose(vault, "#0 = 39");
        is(1.0f / 40.0f, vault.chosenShare(0));
        vault.remove(0, 0);
        is(1.0f / 39.0f, vault.chosenShare(0));
        vault.turnChoice(0);
        is(38.0f / 39.0f, vault.chosenShare(0));
        choose(vault, "#0 > 99");
        is(0.0f, vault.chosenShare(0));
        is(0.0f, vault.chosenShare(1));
        vault.addRow(2);
        is(1.0f, vault.chosenShare(2));
    }

    @Sentence(promise = 40, says = "Throws `IndexOutOfBoundsException` if there is no such table")
    private static void shareOfNoTable() {
        ColumnVault vault = fiveRows();
        noneBeside(3, vault, table -> vault.chosenShare(table));
        is(0.0f, vault.chosenShare(2));
    }
}
