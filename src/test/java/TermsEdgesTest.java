/** A test for each sentence ahead of promise 1, but for those about filters, that names a boundary case. */
public final class TermsEdgesTest extends Kit {
    private static final int[] BEYOND_INT = {-1, 3, 4, 255, 256, Integer.MIN_VALUE, Integer.MAX_VALUE};

    public static void main(String[] args) throws IllegalAccessException {
        runSentences(TermsEdgesTest.class);
    }

    // ---- what it is, and its face

    @Sentence(says = "An object is used for at most 512 calls after it has been made; what later calls answer is free.")
    private static void theLastCallsAreAnsweredAsTheFirstOnes() {
        ColumnVault changed = new ColumnVault();
        changed.addColumn(0, NUMBER);
        changed.addRow(0);
        for (int call = 3; call <= 510; call++) {
            changed.set(0, 0, 0, call);
        }
        is(511, changed.back(499));
        is(499L, changed.get(0, 0, 0));
        ColumnVault asked = new ColumnVault();
        for (int call = 1; call <= 511; call++) {
            asked.example(call % 3);
        }
        is(31, asked.example(0));
    }

    @Sentence(says = "The constants: `NONE = -1`: There is none.")
    private static void none() {
        is(-1, ColumnVault.NONE);
    }

    @Sentence(says = "`MISSING = -9000000000L`: Told for a value that is missing.")
    private static void missing() {
        is(-9000000000L, ColumnVault.MISSING);
    }

    @Sentence(says = "`NUMBER = 0, TEXT = 1`: Kinds of columns.")
    private static void kinds() {
        is(0, ColumnVault.NUMBER);
        is(1, ColumnVault.TEXT);
    }

    @Sentence(says = "`SET = 0, AND = 1, OR = 2, WITHOUT = 3`: Ways to choose.")
    private static void waysToChoose() {
        is(0, ColumnVault.SET);
        is(1, ColumnVault.AND);
        is(2, ColumnVault.OR);
        is(3, ColumnVault.WITHOUT);
    }

    @Sentence(says = "`INNER = 0, LEFT = 1, ANTI = 2`: Kinds of joins.")
    private static void kindsOfJoins() {
        is(0, ColumnVault.INNER);
        is(1, ColumnVault.LEFT);
        is(2, ColumnVault.ANTI);
    }

    // ---- 1. Rules

    @Sentence(says = "If several exceptions apply to a call, the one that is listed first is thrown")
    private static void whatIsNotThereComesFirst() {
        ColumnVault vault = fiveRows();
        say(vault, "#0 <");
        index(vault, () -> vault.addColumn(3, 2));
        index(vault, () -> vault.fill(3, 0, 1000001, 1001, 41));
        index(vault, () -> vault.fill(0, 2, 1000001, 1001, 41));
        index(vault, () -> vault.set(3, 0, 0, 1000001));
        index(vault, () -> vault.set(0, 5, 0, 1000001));
        index(vault, () -> vault.set(0, 0, 2, 1000001));
        index(vault, () -> vault.size(3, 4));
        index(vault, () -> vault.choose(3, 4));
        index(vault, () -> vault.choose(3, ColumnVault.SET));
        index(vault, () -> vault.count(3));
        index(vault, () -> vault.reads(3, true));
        index(vault, () -> vault.join(3, 0, 0, 0, 3));
        index(vault, () -> vault.join(0, 0, 0, 2, 3));
        index(vault, () -> vault.joinErrors(0, 1, 3, 0));
        index(vault, () -> vault.groupAt(0, 4));
        index(vault, () -> vault.total(0, 2, 6));
        index(vault, () -> vault.groupTotal(0, 0, 6));
        index(vault, () -> vault.running(0, 1, 5));
        index(vault, () -> vault.rank(0, 2, 1, 1));
        index(vault, () -> vault.rank(0, 0, 1, 5));
        index(vault, () -> vault.between(0, 2, MISSING, MISSING));
        index(vault, () -> vault.nearest(0, 2, MISSING, true));
        index(vault, () -> vault.alike(0, 3, 4));
        index(vault, () -> vault.meanOf(3, 1));
    }

    @Sentence(says = "If several exceptions apply to a call, the one that is listed first is thrown")
    private static void aWrongArgumentComesSecond() {
        ColumnVault vault = fiveRows();
        say(vault, "#0 <");
        vault.addColumn(0, NUMBER);
        vault.addColumn(0, NUMBER);
        vault.fill(0, 0, 0, 0, 35);
        argument(vault, () -> vault.addColumn(0, 2));
        argument(vault, () -> vault.fill(0, 1, 0, 0, 1));
        argument(vault, () -> vault.fill(0, 0, 1000001, 0, 1));
        argument(vault, () -> vault.fill(0, 0, 1000000, 1, 40));
        argument(vault, () -> vault.choose(0, 4));
        argument(vault, () -> vault.total(0, 2, 6));
        argument(vault, () -> vault.nearest(0, 2, MISSING, true));
        vault.group(0, 0);
        argument(vault, () -> vault.groupTotal(0, 2, -1));
    }

    /** Two stores with the same calls, but that one of them also gets calls that are refused. */
    @Sentence(says = "a call that throws an exception changes nothing.")
    private static void refusedCallsLeaveAllAsItIs() {
        ColumnVault vault = storeInUse();
        ColumnVault twin = storeInUse();
        refuseAll(vault);
        is(twin.version(), vault.version());
        is(twin.type(0), vault.type(0));
        sameTables(twin, vault);
        pairs("0-0 1--1", vault, 2);
        groups("-1 1 2 2 | 1 2 0 1", vault, 2);
        is(twin.reads(0, false), vault.reads(0, false));
        for (int i = 0; i < 2; i++) {
            int oldest = twin.version() - 11;
            is(twin.back(oldest), vault.back(oldest));
            sameTables(twin, vault);
        }
        is(twin.clearText(), vault.clearText());
    }

    private static ColumnVault storeInUse() {
        ColumnVault vault = vault(row(1, "a"), row(1, null), row(-1, "b"));
        vault.sort(0, 0, false, false);
        vault.group(0, 0);
        choose(vault, "#0 = 1");
        vault.addColumn(1, TEXT);
        addRow(vault, 1, "a");
        vault.join(0, 1, 1, 0, ColumnVault.LEFT);
        return vault;
    }

    private static void sameTables(ColumnVault twin, ColumnVault vault) {
        for (int table = 0; table < 2; table++) {
            for (int what = 0; what <= 3; what++) {
                is(twin.size(table, what), vault.size(table, what));
            }
            for (int column = 0; column < twin.size(table, 1); column++) {
                is(twin.kind(table, column), vault.kind(table, column));
                is(column(twin, table, column), column(vault, table, column));
            }
            is(order(twin, table), order(vault, table));
            is(chosen(twin, table), chosen(vault, table));
            is(twin.errorKind(table), vault.errorKind(table));
            is(twin.errorPlace(table), vault.errorPlace(table));
        }
    }

    private static void refuseAll(ColumnVault vault) {
        argument(vault, () -> vault.addColumn(0, 2));
        index(vault, () -> vault.addRow(3));
        argument(vault, () -> vault.fill(0, 0, 999999, 1, 3));
        state(vault, () -> vault.fill(0, 0, 0, 0, 38));
        argument(vault, () -> vault.set(0, 0, 0, 1000001));
        argument(vault, () -> vault.set(0, 0, 1, 5));
        index(vault, () -> vault.remove(0, 3));
        index(vault, () -> vault.back(vault.version() + 1));
        index(vault, () -> vault.sort(0, 2, true, true));
        argument(vault, () -> vault.choose(0, 4));
        state(vault, () -> vault.choose(1, ColumnVault.WITHOUT));
        state(vault, () -> vault.choose(2, ColumnVault.SET));
        index(vault, () -> vault.turnChoice(-1));
        argument(vault, () -> vault.example(3));
        argument(vault, () -> vault.join(0, 0, 1, 0, ColumnVault.INNER));
        argument(vault, () -> vault.join(0, 1, 1, 0, 3));
        argument(vault, () -> vault.joinErrors(0, 0, 1, 0));
        index(vault, () -> vault.group(0, 2));
        index(vault, () -> vault.group(2, 0));
        argument(vault, () -> vault.total(0, 1, 1));
        index(vault, () -> vault.errors(3));
    }

    @Sentence(says = "a call that throws an exception changes nothing.")
    private static void refusedCallsOnAFullTableAndAFullTextLeaveThemAsTheyAre() {
        ColumnVault vault = numbers(40);
        for (int i = 0; i < 20; i++) {
            vault.type(word("#0 = 1 |"));
        }
        state(vault, () -> vault.addRow(0));
        state(vault, () -> vault.fill(0, 0, 1, 1, 1));
        state(vault, () -> vault.type('('));
        state(vault, () -> vault.type(-1));
        is(40, vault.size(0, 0));
        is(39L, vault.get(0, 39, 0));
        is(39, vault.rowAt(0, 39));
        is(160, vault.type(0));
        is(160, vault.errorPlace(0));
        vault.addColumn(0, TEXT);
        vault.addColumn(0, TEXT);
        vault.addColumn(0, TEXT);
        state(vault, () -> vault.addColumn(0, NUMBER));
        is(4, vault.size(0, 1));
        is(TEXT, vault.kind(0, 3));
    }

    @Sentence(says = "An IndexOutOfBoundsException is thrown for a table, a column, a row, a place, a pair, a group or a version that does not exist.")
    private static void nothingIsThereBesideTheNumbers() {
        ColumnVault vault = fiveRows();
        vault.join(0, 0, 0, 0, ColumnVault.INNER);
        vault.group(0, 1);
        noneBeside(3, vault, table -> vault.size(table, 0));
        noneBeside(2, vault, column -> vault.get(0, 0, column));
        noneBeside(5, vault, row -> vault.get(0, row, 0));
        noneBeside(5, vault, place -> vault.rowAt(0, place));
        noneBeside(5, vault, pair -> vault.pairAt(pair, true));
        noneBeside(4, vault, group -> vault.groupAt(group, 0));
        noneBeside(vault.version() + 1, vault, version -> vault.back(version));
        for (int number : BEYOND_INT) {
            index(vault, () -> vault.kind(1, number));
            index(vault, () -> vault.rowAt(2, number));
        }
    }

    @Sentence(says = "Everything is numbered from 0.")
    private static void theFirstOfAllIsNumberZero() {
        ColumnVault vault = new ColumnVault();
        is(0, vault.version());
        is(0, vault.addColumn(0, NUMBER));
        is(0, vault.addRow(0));
        is(0, vault.rowAt(0, 0));
        is(0, vault.placeOf(0, 0));
        is(MISSING, vault.get(0, 0, 0));
        is(1, vault.join(0, 0, 0, 0, ColumnVault.LEFT));
        is(0, vault.pairAt(0, false));
        is(1, vault.group(0, 0));
        is(0L, vault.groupAt(0, 2));
        is(0, vault.errorPlace(0));
        is(3, vault.back(0));
    }

    // ---- 2. Tables

    @Sentence(says = "There are three tables, with at most 4 columns and 40 rows each, without any at first.")
    private static void eachTableIsFilledByItself() {
        ColumnVault vault = new ColumnVault();
        for (int table = 0; table < 3; table++) {
            is(0, vault.size(table, 0));
            is(0, vault.size(table, 1));
            for (int column = 0; column < 4; column++) {
                is(column, vault.addColumn(table, column % 2));
            }
            for (int row = 0; row < 40; row++) {
                is(row, vault.addRow(table));
            }
            is(true, vault.set(table, 39, 2, table));
            is(true, vault.set(table, 39, 3, 'a' + table));
            is(true, vault.set(table, 0, 0, -table - 1));
        }
        for (int table = 0; table < 3; table++) {
            int full = table;
            state(vault, () -> vault.addColumn(full, NUMBER));
            state(vault, () -> vault.addRow(full));
            is((long) table, vault.get(table, 39, 2));
            is('a' + (long) table, vault.get(table, 39, 3));
            is(-table - 1L, vault.get(table, 0, 0));
            is(157, vault.size(table, 3));
            is(40, vault.size(table, 2));
        }
        index(vault, () -> vault.addRow(3));
    }

    @Sentence(says = "A column is of the kind NUMBER or TEXT.")
    private static void thereIsNoThirdKind() {
        ColumnVault vault = new ColumnVault();
        vault.addColumn(0, TEXT);
        vault.addColumn(0, NUMBER);
        is(TEXT, vault.kind(0, 0));
        is(NUMBER, vault.kind(0, 1));
        outOfRange(NUMBER, TEXT, vault, kind -> vault.addColumn(0, kind));
    }

    @Sentence(says = "Where a row and a column meet, there is a value, or it is missing.")
    private static void eachPlaceCanHoldAValueOrNone() {
        ColumnVault vault = vault(row(0, null), row(null, "a"), row(null, null));
        is("0 missing missing", column(vault, 0, 0));
        is("missing 97 missing", column(vault, 0, 1));
        is(4, vault.size(0, 3));
    }

    @Sentence(says = "A value of the kind NUMBER is a number from -1000000 to 1000000.")
    private static void theLeastAndTheGreatestNumber() {
        ColumnVault vault = vault(row(0, "a"));
        for (long value : new long[] {-1000000, 1000000}) {
            vault.set(0, 0, 0, value);
            is(value, vault.get(0, 0, 0));
            is(1, vault.between(0, 0, value, value));
            is(value, vault.nearest(0, 0, value, true));
            rows("0", vault, "#0 = " + value);
        }
        for (long value : new long[] {-1000001, 1000001, 1L << 32, 1L << 32 | 5, -(1L << 32), Long.MIN_VALUE, Long.MAX_VALUE}) {
            argument(vault, () -> vault.set(0, 0, 0, value));
            argument(vault, () -> vault.between(0, 0, value, value));
            argument(vault, () -> vault.nearest(0, 0, value, false));
        }
        error(2, 5, vault, "#0 = 1000001");
        error(2, 5, vault, "#0 = -1000001");
    }

    @Sentence(says = "A value of the kind TEXT is a text of 1 to 7 letters a to z")
    private static void theShortestAndTheLongestText() {
        ColumnVault vault = vault(row(0, "b"));
        for (String letters : new String[] {"a", "z", "aaaaaaa", "zzzzzzz", "az", "zyxwvut"}) {
            is(true, vault.set(0, 0, 1, word(letters)));
            is(word(letters), vault.get(0, 0, 1));
            rows("0", vault, "#1 = " + letters);
        }
        for (long value : new long[] {0, -1, 'a' - 1, 'z' + 1, 'A', 'Z', '5', ' ', 255, -'a', word("aaaaaaaa"), word("zzzzzzzz")}) {
            argument(vault, () -> vault.set(0, 0, 1, value));
        }
    }

    @Sentence(says = "A value of the kind TEXT is a text of 1 to 7 letters a to z")
    private static void eachByteOfATextIsALetter() {
        ColumnVault vault = vault(row(0, "b"));
        for (int at = 0; at < 7; at++) {
            long other = 255L << 8 * at;
            for (int sign : new int[] {0, 1, 'a' - 1, 'z' + 1, 'A', 128, 255}) {
                long value = word("aaaaaaa") & ~other | (long) sign << 8 * at;
                if (at < 6 || sign > 0) {
                    argument(vault, () -> vault.set(0, 0, 1, value));
                }
            }
        }
        argument(vault, () -> vault.set(0, 0, 1, word("aaaaaaa") | 1L << 56));
        argument(vault, () -> vault.set(0, 0, 1, word("aaaaaaa") | 1L << 63));
        is(true, vault.set(0, 0, 1, word("aaaaaa")));
    }

    @Sentence(says = "it is told as a number, that of its bytes, the first one being the highest one of base 256 (\"ab\" is 97 * 256 + 98).")
    private static void textsAreToldAsNumbers() {
        ColumnVault vault = vault(row(0, "ab"));
        is(97L * 256 + 98, vault.get(0, 0, 1));
        rows("0", vault, "#1 = ab");
        vault.set(0, 0, 1, 0x7a797877767574L);
        rows("0", vault, "#1 = zyxwvut");
        is(0x7a797877767574L, vault.get(0, 0, 1));
        is(0x7a797877767574L, vault.total(0, 1, 2));
        is(0x7a797877767574L, vault.nearest(0, 1, 'a', false));
        vault.group(0, 1);
        is(0x7a797877767574L, vault.groupAt(0, 0));
    }

    @Sentence(says = "Numbers have their order; texts are in the order of the alphabet, letter by letter, and one that is the beginning of another one is less.")
    private static void theBeginningOfATextIsLess() {
        ColumnVault vault = vault(row(0, "b"), row(-1, "aaaaaaa"), row(1000000, "a"), row(-1000000, "ab"), row(1, "aaaaaab"), row(9, "aaaaaa"));
        is("0 1 2 3 4 5", chosen(vault));
        vault.sort(0, 0, false, false);
        order("3 1 0 4 5 2", vault);
        vault.sort(0, 1, false, false);
        order("2 5 1 4 3 0", vault);
        rows("1 2 4 5", vault, "#1 < ab");
        rows("0", vault, "#1 > ab");
        rows("1 4 5", vault, "#1 to aa aaz");
        is(word("aaaaaab"), vault.nearest(0, 1, word("aaz"), true));
        is(word("ab"), vault.nearest(0, 1, word("aaz"), false));
        is(5, vault.between(0, 1, word("a"), word("ab")));
    }

    @Sentence(says = "MISSING is told for what is missing.")
    private static void missingIsTold() {
        ColumnVault vault = vault(row(null, null));
        is(MISSING, vault.get(0, 0, 0));
        is(MISSING, vault.get(0, 0, 1));
        vault.group(0, 1);
        is(MISSING, vault.groupAt(0, 0));
        is(false, vault.set(0, 0, 0, MISSING));
    }

    @Sentence(says = "A table has an order of its rows, that of their numbers at first; a new row is the last one of the order.")
    private static void newRowsAreLastInTheOrder() {
        ColumnVault vault = numbers(3);
        order("0 1 2", vault);
        vault.sort(0, 0, true, false);
        order("2 1 0", vault);
        vault.addRow(0);
        order("2 1 0 3", vault);
        vault.fill(0, 0, 9, 1, 2);
        order("2 1 0 3 4 5", vault);
        vault.remove(0, 5);
        vault.addRow(0);
        order("2 1 0 3 4 5", vault);
    }

    @Sentence(says = "It also has a choice, a set of its rows; a new row is chosen.")
    private static void newRowsAreChosen() {
        ColumnVault vault = numbers(39);
        is(39, vault.size(0, 2));
        is(0, vault.turnChoice(0));
        vault.addRow(0);
        is("39", chosen(vault));
        vault.remove(0, 39);
        is("", chosen(vault));
        vault.fill(0, 0, 1, 1, 1);
        is("39", chosen(vault));
    }

    @Sentence(says = "If a row is removed, the numbers of the rows behind it become less by 1; order and choice stay otherwise.")
    private static void rowsBehindARemovedOneMoveUp() {
        ColumnVault vault = vault(row(5, "a"), row(4, "b"), row(3, "c"), row(2, "d"), row(1, "e"));
        vault.sort(0, 0, false, false);
        order("4 3 2 1 0", vault);
        choose(vault, "#0 in 5 3 2");
        is("0 2 3", chosen(vault));
        vault.remove(0, 1);
        is("5 3 2 1", column(vault, 0, 0));
        order("3 2 1 0", vault);
        is("0 1 2", chosen(vault));
        vault.remove(0, 3);
        order("2 1 0", vault);
        is("0 1 2", chosen(vault));
        vault.remove(0, 0);
        is("3 2", column(vault, 0, 0));
        order("1 0", vault);
        is("0 1", chosen(vault));
    }

    @Sentence(says = "If a row is removed, the numbers of the rows behind it become less by 1; order and choice stay otherwise.")
    private static void theFirstAndTheLastOfFortyRowsAreRemoved() {
        ColumnVault vault = numbers(40);
        vault.sort(0, 0, true, false);
        choose(vault, "#0 in 0 1 38 39");
        is(39, vault.remove(0, 0));
        is("0 37 38", chosen(vault));
        is(38, vault.rowAt(0, 0));
        is(0, vault.rowAt(0, 38));
        is(38, vault.remove(0, 38));
        is("0 37", chosen(vault));
        is(37, vault.rowAt(0, 0));
        is(38L, vault.get(0, 37, 0));
    }

    @Sentence(says = "A change is each call that is told to be one, also if nothing is different behind it.")
    private static void changesThatChangeNothing() {
        ColumnVault vault = fiveRows();
        int before = vault.version();
        say(vault, "#0 > 100");
        is(false, vault.set(0, 0, 0, 3));
        is(false, vault.set(0, 1, 1, MISSING));
        vault.sort(0, 0, true, false);
        is(before + 3, vault.version());
        is(0, vault.sort(0, 0, true, false));
        is(5, vault.choose(0, ColumnVault.OR));
        is(5, vault.choose(0, ColumnVault.WITHOUT));
        is(0, vault.turnChoice(2));
        is(before + 8, vault.back(before + 7));
        is(before + 8, vault.version());
    }

    @Sentence(says = "A change is each call that is told to be one, also if nothing is different behind it.")
    private static void callsThatAreNoChanges() {
        ColumnVault vault = fiveRows();
        int before = vault.version();
        vault.example(1);
        vault.type(' ');
        vault.count(0);
        vault.reads(0, true);
        vault.errorKind(0);
        vault.errorPlace(0);
        vault.clearText();
        vault.join(0, 0, 0, 0, ColumnVault.LEFT);
        vault.pairAt(0, true);
        vault.joinErrors(0, 0, 0, 0);
        vault.group(0, 1);
        vault.groupAt(0, 0);
        vault.groupTotal(0, 0, 1);
        vault.total(0, 0, 1);
        vault.running(0, 0, 4);
        vault.rank(0, 0, 0, 0);
        vault.previous(0, 0, 0);
        vault.between(0, 0, 0, 1);
        vault.nearest(0, 0, 0, true);
        vault.alike(0, 0, 0);
        vault.errors(0);
        vault.meanOf(0, 0);
        vault.chosenShare(0);
        vault.get(0, 0, 0);
        vault.size(0, 3);
        vault.kind(0, 0);
        vault.rowAt(0, 0);
        vault.placeOf(0, 0);
        vault.isChosen(0, 0);
        is(before, vault.version());
    }

    @Sentence(says = "The versions are numbered: 0 is the store as it is created, and each change makes the next one.")
    private static void versionZeroIsTheNewStore() {
        ColumnVault vault = new ColumnVault();
        is(0, vault.version());
        is(0, vault.addColumn(2, NUMBER));
        is(1, vault.version());
        vault.addRow(2);
        is(2, vault.version());
        is(3, vault.back(0));
        is(0, vault.size(2, 0));
        is(0, vault.size(2, 1));
        is(4, vault.back(1));
        is(0, vault.size(2, 0));
        is(1, vault.size(2, 1));
    }

    @Sentence(says = "The latest 12 versions are kept (also the one of now).")
    private static void theTwelfthIsKeptAndTheThirteenthIsNot() {
        ColumnVault vault = numbers(1);
        for (int version = 3; version <= 11; version++) {
            vault.set(0, 0, 0, version);
        }
        is(11, vault.version());
        is(12, vault.back(0));
        is(0, vault.size(0, 1));
        index(vault, () -> vault.back(0));
        is(13, vault.back(11));
        is(11L, vault.get(0, 0, 0));
        index(vault, () -> vault.back(1));
        is(14, vault.back(2));
        is(0L, vault.get(0, 0, 0));
        is(15, vault.back(14));
        is(16, vault.back(5));
        is(5L, vault.get(0, 0, 0));
        index(vault, () -> vault.back(4));
        index(vault, () -> vault.back(17));
    }

    @Sentence(says = "The latest 12 versions are kept (also the one of now).")
    private static void eachKeptVersionStaysAsItWas() {
        ColumnVault vault = numbers(1);
        for (int version = 3; version <= 40; version++) {
            vault.set(0, 0, 0, version);
        }
        for (int back = 1; back <= 12; back++) {
            int kept = vault.version() - 11;
            is(vault.version() + 1, vault.back(kept));
            is((long) kept, vault.get(0, 0, 0));
        }
    }

    @Sentence(says = "To go back to one of them makes the store what it was then, and is a change, too.")
    private static void allOfTheStoreGoesBack() {
        ColumnVault vault = fiveRows();
        vault.sort(0, 0, false, false);
        choose(vault, "#0 > 0");
        vault.addColumn(1, TEXT);
        int then = vault.version();
        vault.sort(0, 1, false, false);
        vault.turnChoice(0);
        vault.remove(0, 0);
        vault.set(0, 0, 0, 77);
        vault.addColumn(0, TEXT);
        vault.addRow(1);
        vault.addRow(2);
        is(then + 8, vault.back(then));
        is("3 2 1 0 -1", column(vault, 0, 0));
        order("4 3 2 1 0", vault);
        is("0 1 2", chosen(vault));
        is(2, vault.size(0, 1));
        is(0, vault.size(1, 0));
        is(TEXT, vault.kind(1, 0));
        is(0, vault.size(2, 0));
        is(then + 9, vault.back(then + 7));
        is("77 1 0 -1", column(vault, 0, 0));
        is("2 3", chosen(vault));
        is(3, vault.size(0, 1));
        is(1, vault.size(2, 0));
    }
}
