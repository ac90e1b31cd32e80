/** For each promise of the document its ordinary inputs, the edges that it names, and wrong inputs. */
public final class PromisesTest extends Kit {
    public static void main(String[] args) {
        Call[] promises = {
            PromisesTest::aNewObject, PromisesTest::addColumn, PromisesTest::addRow, PromisesTest::fill, PromisesTest::set,
            PromisesTest::remove, PromisesTest::get, PromisesTest::size, PromisesTest::kind, PromisesTest::version,
            PromisesTest::back, PromisesTest::sort, PromisesTest::rowAt, PromisesTest::placeOf, PromisesTest::isChosen,
            PromisesTest::choose, PromisesTest::turnChoice, PromisesTest::count, PromisesTest::reads, PromisesTest::errorKind,
            PromisesTest::errorPlace, PromisesTest::type, PromisesTest::clearText, PromisesTest::example, PromisesTest::join,
            PromisesTest::pairAt, PromisesTest::joinErrors, PromisesTest::group, PromisesTest::groupAt, PromisesTest::total,
            PromisesTest::groupTotal, PromisesTest::running, PromisesTest::rank, PromisesTest::previous, PromisesTest::between,
            PromisesTest::nearest, PromisesTest::alike, PromisesTest::errors, PromisesTest::meanOf, PromisesTest::chosenShare,
        };
        for (int i = 0; i < promises.length; i++) {
            begin("promise " + (i + 1));
            promises[i].run();
        }
        end(promises.length);
    }

    private static void aNewObject() {
        ColumnVault vault = new ColumnVault();
        for (int table = 0; table < 3; table++) {
            for (int what = 0; what < 4; what++) {
                is(0, vault.size(table, what));
            }
        }
        is(0, vault.version());
        is(0, vault.clearText());
        index(vault, () -> vault.size(3, 0));
        index(vault, () -> vault.pairAt(0, false));
        index(vault, () -> vault.groupAt(0, 0));
        index(vault, () -> vault.kind(0, 0));
        index(vault, () -> vault.rowAt(0, 0));
    }

    private static void addColumn() {
        ColumnVault vault = new ColumnVault();
        vault.addRow(1);
        is(0, vault.addColumn(1, TEXT));
        is(MISSING, vault.get(1, 0, 0));
        is(1, vault.addColumn(1, NUMBER));
        is(MISSING, vault.get(1, 0, 1));
        is(3, vault.version());
        index(vault, () -> vault.addColumn(-1, 0));
        index(vault, () -> vault.addColumn(3, 7));
        argument(vault, () -> vault.addColumn(1, 2));
        argument(vault, () -> vault.addColumn(1, -1));
        vault.addColumn(1, NUMBER);
        is(3, vault.addColumn(1, TEXT));
        state(vault, () -> vault.addColumn(1, NUMBER));
        argument(vault, () -> vault.addColumn(1, 2));
        is(4, vault.size(1, 1));
        is(0, vault.size(0, 1));
        // what a removed row, or a version that was left, had in the column must not come back
        ColumnVault other = vault(row(1, "a"), row(2, "b"));
        other.remove(0, 1);
        other.addRow(0);
        is(MISSING, other.get(0, 1, 0));
        other.back(0);
        other.addRow(0);
        other.addColumn(0, NUMBER);
        is(MISSING, other.get(0, 0, 0));
    }

    private static void addRow() {
        ColumnVault vault = fiveRows();
        vault.sort(0, 0, false, false);
        vault.turnChoice(0);
        is(5, vault.addRow(0));
        order("4 3 2 1 0 5", vault);
        is("5", chosen(vault));
        is(MISSING, vault.get(0, 5, 0));
        is(MISSING, vault.get(0, 5, 1));
        for (int row = 6; row < 40; row++) {
            is(row, vault.addRow(0));
        }
        state(vault, () -> vault.addRow(0));
        index(vault, () -> vault.addRow(3));
        is(40, vault.size(0, 0));
        is(0, vault.addRow(2));
    }

    private static void fill() {
        ColumnVault vault = fiveRows();
        vault.sort(0, 0, false, false);
        vault.turnChoice(0);
        is(8, vault.fill(0, 0, 7, -1000, 3));
        is(7L, vault.get(0, 5, 0));
        is(-993L, vault.get(0, 6, 0));
        is(-1993L, vault.get(0, 7, 0));
        is(MISSING, vault.get(0, 7, 1));
        order("4 3 2 1 0 5 6 7", vault);
        is("5 6 7", chosen(vault));
        int before = vault.version();
        is(9, vault.fill(0, 0, 1000000, 1000, 1));
        is(before + 1, vault.version());
        argument(vault, () -> vault.fill(0, 0, 1000000, 1, 2));
        argument(vault, () -> vault.fill(0, 0, -1000000, -1, 2));
        argument(vault, () -> vault.fill(0, 0, 1000001, 0, 1));
        argument(vault, () -> vault.fill(0, 0, -1000001, 0, 1));
        argument(vault, () -> vault.fill(0, 0, 0, 1001, 1));
        argument(vault, () -> vault.fill(0, 0, 0, -1001, 1));
        argument(vault, () -> vault.fill(0, 0, 0, 0, 0));
        argument(vault, () -> vault.fill(0, 0, 0, 0, 41));
        argument(vault, () -> vault.fill(0, 0, Integer.MAX_VALUE, Integer.MAX_VALUE, Integer.MAX_VALUE));
        argument(vault, () -> vault.fill(0, 1, 0, 0, 1));
        state(vault, () -> vault.fill(0, 0, 0, 0, 32));
        argument(vault, () -> vault.fill(0, 0, 999999, 1, 32));
        index(vault, () -> vault.fill(0, 2, 1000001, 0, 41));
        index(vault, () -> vault.fill(0, -1, 0, 0, 1));
        index(vault, () -> vault.fill(3, 0, 0, 0, 1));
        is(9, vault.size(0, 0));
        is(40, vault.fill(0, 0, -999969, -1, 31));
        is(-999999L, vault.get(0, 39, 0));
        state(vault, () -> vault.fill(0, 0, 0, 0, 1));
    }

    private static void set() {
        ColumnVault vault = vault(row(5, "b"), row(null, null));
        is(false, vault.set(0, 0, 0, 5));
        is(true, vault.set(0, 0, 0, -1000000));
        is(true, vault.set(0, 0, 0, 1000000));
        is(true, vault.set(0, 0, 0, MISSING));
        is(false, vault.set(0, 0, 0, MISSING));
        is(MISSING, vault.get(0, 0, 0));
        is(true, vault.set(0, 0, 1, word("zzzzzzz")));
        is(word("zzzzzzz"), vault.get(0, 0, 1));
        is(false, vault.set(0, 0, 1, word("zzzzzzz")));
        is(true, vault.set(0, 0, 1, word("a")));
        is(true, vault.set(0, 0, 1, MISSING));
        is(false, vault.set(0, 1, 1, MISSING));
        int before = vault.version();
        vault.set(0, 1, 1, MISSING);
        is(before + 1, vault.version());
        for (long value : new long[] {1000001, -1000001, MISSING + 1, MISSING - 1, Long.MAX_VALUE, Long.MIN_VALUE, word("abcd")}) {
            argument(vault, () -> vault.set(0, 0, 0, value));
        }
        for (long value : new long[] {0, 1, -1, word("A"), 0x60, 0x7b, word("aa") << 8, 0x610061, 0x61006161, word("aaaaaaaa"),
            0x0161616161616161L, word("aBc"), word("ab") | 1L << 62, -word("a"), word("a") | 1L << 63}) {
            argument(vault, () -> vault.set(0, 0, 1, value));
        }
        index(vault, () -> vault.set(0, 2, 0, Long.MAX_VALUE));
        index(vault, () -> vault.set(0, 0, 2, 0));
        index(vault, () -> vault.set(0, -1, 0, 0));
        index(vault, () -> vault.set(0, 0, -1, 0));
        index(vault, () -> vault.set(-1, 0, 0, 0));
    }

    private static void remove() {
        ColumnVault vault = fiveRows();
        vault.sort(0, 1, false, true);
        order("1 3 4 2 0", vault);
        rows("0 2 3", vault, "#0 = 3 | #0 in 1 0");
        int before = vault.version();
        is(4, vault.remove(0, 1));
        is(before + 1, vault.version());
        order("2 3 1 0", vault);
        is("0 1 2", chosen(vault));
        is(word("ab"), vault.get(0, 1, 1));
        is(0L, vault.get(0, 2, 0));
        is(3, vault.remove(0, 3));
        order("2 1 0", vault);
        is("0 1 2", chosen(vault));
        index(vault, () -> vault.remove(0, 3));
        index(vault, () -> vault.remove(0, -1));
        index(vault, () -> vault.remove(3, 0));
        is(2, vault.remove(0, 0));
        is(1, vault.remove(0, 0));
        is(0, vault.remove(0, 0));
        index(vault, () -> vault.remove(0, 0));
        ColumnVault full = new ColumnVault();
        full.addColumn(0, NUMBER);
        full.fill(0, 0, 0, 1, 40);
        say(full, "#0 in 0 38 39");
        full.choose(0, ColumnVault.SET);
        full.remove(0, 0);
        is("37 38", chosen(full));
        full.remove(0, 38);
        is("37", chosen(full));
        full.addRow(0);
        is("37 38", chosen(full));
    }

    private static void get() {
        ColumnVault vault = fiveRows();
        is(-1L, vault.get(0, 4, 0));
        is(97L, vault.get(0, 4, 1));
        is(24930L, vault.get(0, 2, 1));
        is(MISSING, vault.get(0, 3, 1));
        vault.set(0, 3, 1, word("abcdefg"));
        is(word("abcdefg"), vault.get(0, 3, 1));
        index(vault, () -> vault.get(0, 5, 0));
        index(vault, () -> vault.get(0, 0, 2));
        index(vault, () -> vault.get(0, -1, 0));
        index(vault, () -> vault.get(0, 0, -1));
        index(vault, () -> vault.get(3, 0, 0));
        index(vault, () -> vault.get(1, 0, 0));
    }

    private static void size() {
        ColumnVault vault = fiveRows();
        rows("0 1", vault, "#0 > 1");
        is(5, vault.size(0, 0));
        is(2, vault.size(0, 1));
        is(2, vault.size(0, 2));
        is(2, vault.size(0, 3));
        vault.addColumn(0, TEXT);
        is(7, vault.size(0, 3));
        vault.set(0, 4, 0, MISSING);
        is(8, vault.size(0, 3));
        argument(vault, () -> vault.size(0, 4));
        argument(vault, () -> vault.size(0, -1));
        index(vault, () -> vault.size(3, 4));
        index(vault, () -> vault.size(-1, 0));
        // without columns nothing is missing
        vault.addRow(1);
        is(0, vault.size(1, 3));
        is(1, vault.size(1, 2));
    }

    private static void kind() {
        ColumnVault vault = fiveRows();
        is(NUMBER, vault.kind(0, 0));
        is(TEXT, vault.kind(0, 1));
        index(vault, () -> vault.kind(0, 2));
        index(vault, () -> vault.kind(0, -1));
        index(vault, () -> vault.kind(1, 0));
        index(vault, () -> vault.kind(3, 0));
    }

    private static void version() {
        ColumnVault vault = new ColumnVault();
        vault.addColumn(0, NUMBER);
        vault.addRow(0);
        vault.fill(0, 0, 1, 1, 2);
        vault.set(0, 0, 0, 1);
        vault.set(0, 0, 0, 1);
        vault.remove(0, 0);
        vault.sort(0, 0, false, false);
        vault.turnChoice(1);
        say(vault, "#0 missing");
        vault.choose(0, ColumnVault.AND);
        is(9, vault.version());
        vault.back(3);
        is(10, vault.version());
        vault.count(0);
        vault.group(0, 0);
        vault.join(0, 0, 0, 0, 0);
        vault.joinErrors(0, 0, 0, 0);
        vault.errors(0);
        vault.example(0);
        vault.get(0, 0, 0);
        vault.alike(0, 0, 1);
        is(10, vault.version());
    }

    private static void back() {
        ColumnVault vault = fiveRows();
        int first = vault.version();
        vault.sort(0, 0, false, false);
        vault.turnChoice(0);
        vault.set(0, 0, 0, 77);
        vault.remove(0, 4);
        vault.addColumn(0, NUMBER);
        vault.addRow(1);
        say(vault, "#0 = 77");
        vault.turnChoice(0);
        vault.join(0, 0, 0, 0, ColumnVault.INNER);
        vault.group(0, 0);
        int last = vault.version();
        is(last + 1, vault.back(first));
        is(3L, vault.get(0, 0, 0));
        order("0 1 2 3 4", vault);
        is("0 1 2 3 4", chosen(vault));
        is(2, vault.size(0, 1));
        is(0, vault.size(1, 0));
        is(4, vault.group(0, 0) - 1);
        is(7, vault.clearText());
        is(3, vault.pairAt(3, true));
        is(last + 2, vault.back(last));
        is(77L, vault.get(0, 0, 0));
        is(1, vault.size(1, 0));
        is(3, vault.size(0, 1));
        index(vault, () -> vault.back(vault.version() + 1));
        index(vault, () -> vault.back(vault.version() - 12));
        index(vault, () -> vault.back(-1));
        index(vault, () -> vault.back(Integer.MIN_VALUE));
        index(vault, () -> vault.back(Integer.MAX_VALUE));
        // the oldest one that is kept, then the one of now
        ColumnVault other = new ColumnVault();
        other.addColumn(0, NUMBER);
        other.addRow(0);
        for (int i = 1; i <= 11; i++) {
            other.set(0, 0, 0, i);
        }
        index(other, () -> other.back(1));
        is(14, other.back(2));
        is(MISSING, other.get(0, 0, 0));
        is(15, other.back(14));
        is(MISSING, other.get(0, 0, 0));
        is(16, other.back(13));
        is(11L, other.get(0, 0, 0));
        // groups stay
        ColumnVault grouped = fiveRows();
        grouped.group(0, 1);
        grouped.back(grouped.version() - 3);
        is(2L, grouped.groupTotal(3, 0, 0));
        is(3L, grouped.groupAt(3, 3));
    }

    private static void sort() {
        ColumnVault vault = vault(row(1, "b"), row(2, "a"), row(1, null), row(null, "ab"), row(2, "b"), row(null, null));
        is(6, vault.sort(0, 0, true, true));
        order("3 5 1 4 0 2", vault);
        is(4, vault.sort(0, 0, false, false));
        order("0 2 1 4 3 5", vault);
        is(0, vault.sort(0, 0, false, false));
        is(4, vault.sort(0, 1, true, false));
        order("0 4 3 1 2 5", vault);
        is(6, vault.sort(0, 1, false, true));
        order("2 5 1 3 0 4", vault);
        int before = vault.version();
        vault.sort(0, 1, false, true);
        is(before + 1, vault.version());
        // texts by the alphabet, not by their numbers
        ColumnVault texts = vault(row(0, "b"), row(0, "ab"), row(0, "a"), row(0, "aaaaaaa"), row(0, "zz"), row(0, "z"));
        texts.sort(0, 1, false, false);
        order("2 3 1 0 5 4", texts);
        texts.sort(0, 1, true, false);
        order("4 5 0 1 3 2", texts);
        texts.sort(0, 0, true, false);
        order("4 5 0 1 3 2", texts);
        index(vault, () -> vault.sort(0, 2, false, false));
        index(vault, () -> vault.sort(0, -1, false, false));
        index(vault, () -> vault.sort(3, 0, false, false));
        ColumnVault empty = vault();
        is(0, empty.sort(0, 0, true, true));
    }

    private static void rowAt() {
        ColumnVault vault = fiveRows();
        order("0 1 2 3 4", vault);
        vault.sort(0, 0, false, false);
        is(4, vault.rowAt(0, 0));
        is(0, vault.rowAt(0, 4));
        index(vault, () -> vault.rowAt(0, 5));
        index(vault, () -> vault.rowAt(0, -1));
        index(vault, () -> vault.rowAt(3, 0));
        index(vault, () -> vault.rowAt(1, 0));
    }

    private static void placeOf() {
        ColumnVault vault = fiveRows();
        vault.sort(0, 1, false, false);
        is(0, vault.placeOf(0, 4));
        is(3, vault.placeOf(0, 1));
        is(4, vault.placeOf(0, 3));
        index(vault, () -> vault.placeOf(0, 5));
        index(vault, () -> vault.placeOf(0, -1));
        index(vault, () -> vault.placeOf(3, 0));
    }

    private static void isChosen() {
        ColumnVault vault = fiveRows();
        is(true, vault.isChosen(0, 4));
        rows("0 4", vault, "#0 = 3 | #0 = -1");
        is(true, vault.isChosen(0, 0));
        is(false, vault.isChosen(0, 1));
        vault.sort(0, 0, false, false);
        is("0 4", chosen(vault));
        index(vault, () -> vault.isChosen(0, 5));
        index(vault, () -> vault.isChosen(0, -1));
        index(vault, () -> vault.isChosen(3, 0));
    }

    private static void choose() {
        ColumnVault vault = fiveRows();
        rows("1 2 3", vault, "#0 to 0 2");
        say(vault, "#0 > 1");
        is(1, vault.choose(0, ColumnVault.AND));
        is("1", chosen(vault));
        is(2, vault.choose(0, ColumnVault.OR));
        is("0 1", chosen(vault));
        say(vault, "#0 = 3");
        is(1, vault.choose(0, ColumnVault.WITHOUT));
        is("1", chosen(vault));
        is(1, vault.choose(0, ColumnVault.SET));
        is("0", chosen(vault));
        is(0, vault.choose(0, ColumnVault.WITHOUT));
        is("", chosen(vault));
        say(vault, "#0 <");
        argument(vault, () -> vault.choose(0, 4));
        argument(vault, () -> vault.choose(0, -1));
        index(vault, () -> vault.choose(3, 4));
        state(vault, () -> vault.choose(0, 0));
        say(vault, "#0 < 3");
        state(vault, () -> vault.choose(1, 0));
        int before = vault.version();
        vault.choose(0, ColumnVault.AND);
        is(before + 1, vault.version());
    }

    private static void turnChoice() {
        ColumnVault vault = fiveRows();
        rows("0 4", vault, "#0 in 3 -1");
        is(3, vault.turnChoice(0));
        is("1 2 3", chosen(vault));
        is(2, vault.turnChoice(0));
        is("0 4", chosen(vault));
        is(0, vault.turnChoice(1));
        int before = vault.version();
        vault.turnChoice(1);
        is(before + 1, vault.version());
        index(vault, () -> vault.turnChoice(3));
        index(vault, () -> vault.turnChoice(-1));
    }

    private static void count() {
        ColumnVault vault = fiveRows();
        rows("2 4", vault, "#0 < 5 & !(#1 = b | #1 missing)");
        rows("0 1 2", vault, "#0 > 0");
        rows("3 4", vault, "#0 < 1");
        rows("1", vault, "#0=2");
        rows("1", vault, "  #0  =  0002  ");
        rows("3", vault, "#0 = -0");
        rows("0 2", vault, "#1 > a");
        rows("2 4", vault, "#1 < b");
        rows("2 4", vault, "#1 to a az");
        rows("", vault, "#1 to b a");
        rows("", vault, "#0 to 1 0");
        rows("1 3", vault, "#1 missing");
        rows("0 2 4", vault, "!#1 missing");
        rows("1 3", vault, "!!!(#1 to a zzzzzzz)");
        rows("0 1 2 3 4", vault, "#0 = 1 | #0 > 0 | !#0 > 0");
        rows("0 1 4", vault, "#0 = -1 | #0 > 0 & !#0 = 1");
        rows("1", vault, "(#0 = -1 | #0 > 0) & #0 = 2");
        rows("0 1 2 3 4", vault, "#0 in -1 0 1 2 3 4");
        rows("0 1 2", vault, "#0in 1 2 3");
        rows("2 3 4", vault, "#0to-1 1");
        rows("1 2", vault, "#0 in 1 2&!#0<1");
        rows("0 1 2 3 4", vault, "((((((#0 < 1000000))))))");
        rows("1 3", vault, "!#1 to a zz");
        rows("0 1 3", vault, "!#1 < b");
        ColumnVault words = vault(row(3, "to"), row(2, "in"), row(1, "missing"), row(0, null));
        rows("0 1 2", words, "#1 in to in missing");
        rows("0", words, "#1 = to");
        rows("2", words, "#1 = missing");
        rows("1 2", words, "#1 to in missing");
        rows("3", words, "#1 missing");
        index(vault, () -> vault.count(3));
        vault.clearText();
        state(vault, () -> vault.count(0));
        index(vault, () -> vault.count(-1));
        say(vault, "#0 = 0");
        state(vault, () -> vault.count(2));
        vault.addColumn(2, NUMBER);
        is(0, vault.count(2));
    }

    private static void reads() {
        ColumnVault vault = fiveRows();
        String[] filters = {
            "#0 < 5 & !(#1 = b | #1 missing)", "#0 = 1", "#0 = 1 & #0 = 1 & #0 > 5 & #0 = 1", "#0 = 1 | #0 = 1 | #0 < 5 | #0 = 1",
            "#0 to 0 3 & #0 > 1 | #1 missing", "!(#0 = 1 & #0 < 9)", "#0 = 1 & #0 = 2", "#0 < 1 | #0 > 0", "#0 in 1 2 3 & !#0 = 1 & #1 missing",
            "#1 missing & (#0 = 2 | #0 = 0)", "(#0 = 2 | #0 = 0) & #1 missing", "((((((#0 < 5 & #0 = 1))))))", "!(!(!(#0 < 5 & #0 = 1)))",
            "#1 missing | (#0 < 3 & #0 < 1)", "(#0 < 3 & #0 < 1) | #1 missing",
        };
        int[] asTold = {14, 5, 7, 13, 12, 6, 6, 8, 10, 8, 11, 10, 10, 10, 12};
        int[] byCounts = {10, 5, 5, 5, 10, 6, 6, 7, 8, 8, 11, 6, 6, 9, 10};
        for (int i = 0; i < filters.length; i++) {
            say(vault, filters[i]);
            is(asTold[i], vault.reads(0, false));
            is(byCounts[i], vault.reads(0, true));
        }
        // the choice does not matter, and an empty table needs nothing
        rows("2", vault, "#0 = 1");
        is(5, vault.reads(0, true));
        vault.addColumn(1, NUMBER);
        is(0, vault.reads(1, false));
        index(vault, () -> vault.reads(3, false));
        vault.clearText();
        state(vault, () -> vault.reads(0, true));
        index(vault, () -> vault.reads(-1, true));
    }

    private static void errorKind() {
        ColumnVault vault = vault(row(1, "a"));
        error(1, 0, vault, "");
        error(1, 3, vault, "   ");
        error(2, 0, vault, "#2 = 1");
        error(2, 0, vault, "#9");
        error(3, 5, vault, "#0 = a");
        error(3, 5, vault, "#1 = 5");
        error(2, 5, vault, "#0 = 1000001");
        error(2, 5, vault, "#0 = -1000001");
        error(2, 5, vault, "#0 = 99999999999999999999999999999999999999999");
        error(2, 5, vault, "#1 = 1000001");
        error(2, 5, vault, "#1 = abcdefgh");
        error(2, 5, vault, "#0 = abcdefgh");
        error(2, 18, vault, "#0 in 1 2 3 4 5 6 7");
        error(2, 18, vault, "#0 in 1 2 3 4 5 6 b");
        error(2, 19, vault, "#0 in 1 2 3 4 5 6  missing");
        error(2, 6, vault, "((((((((#0 = 1))))))))");
        error(2, 3, vault, "!!!!#0 = 1");
        error(2, 6, vault, "! ! ! ! #0 = 1");
        is(0, kindOf(vault, "!!!(!!!#0 = 1)"));
        is(0, kindOf(vault, "((((((#0 = 1))))))|((((((#0 = 1))))))"));
        index(vault, () -> vault.errorKind(3));
        index(vault, () -> vault.errorKind(-1));
        vault.clearText();
        is(1, vault.errorKind(0));
        is(1, vault.errorKind(2));
        // an error of one table need not be one of another
        say(vault, "#0 = 1");
        is(0, vault.errorKind(0));
        is(2, vault.errorKind(1));
        vault.addColumn(1, TEXT);
        is(3, vault.errorKind(1));
    }

    private static int kindOf(ColumnVault vault, String filter) {
        say(vault, filter);
        return vault.errorKind(0);
    }

    private static void errorPlace() {
        ColumnVault vault = vault(row(1, "a"));
        error(1, 1, vault, "#");
        error(1, 1, vault, "# 0 = 1");
        error(1, 3, vault, "!(#a");
        error(1, 2, vault, "#0");
        error(1, 4, vault, "#0  ");
        error(1, 3, vault, "#0 5");
        error(1, 2, vault, "#05 = 1");
        error(1, 3, vault, "#0 tox 1 2");
        error(1, 3, vault, "#0 missings");
        error(1, 3, vault, "#0 #1");
        error(1, 4, vault, "#0 =");
        error(1, 6, vault, "#0 =  ");
        error(1, 5, vault, "#0 = - 5");
        error(1, 5, vault, "#0 = --5");
        error(1, 5, vault, "#0 = -");
        error(1, 5, vault, "#0 = A");
        error(1, 7, vault, "#0 = 1 2");
        error(1, 7, vault, "#0 = 1 to");
        ColumnVault other = vault(row(1, "a"));
        error(1, 7, other, "#0 = 1 #9");
        error(1, 7, other, "#0 = 1 #");
        error(1, 6, other, "#0 = 1)");
        error(1, 7, other, "(#0 = 1");
        error(1, 1, other, "()");
        error(1, 8, other, "#0 = 1 |");
        error(1, 9, other, "#0 = 1 & | #0 = 1");
        error(1, 1, other, "!");
        error(1, 0, other, "to 1 2");
        error(1, 0, other, "12");
        error(1, 0, other, "abcdefghi");
        error(1, 6, other, "#0 in ");
        error(1, 8, other, "#0 in 1 -");
        error(1, 8, other, "#0 to 1 | #0 = 1");
        error(1, 11, other, "#0 missing 1");
        error(3, 6, other, "#0 to to to");
        error(3, 8, other, "#0 to 1 to");
        error(3, 8, other, "#0 in 1 missing");
        error(3, 5, other, "#0 = to");
        error(3, 5, other, "#0 = missing & #9 = 1");
        error(1, 6, other, "#0 = 1\t");
        error(1, 6, other, "#0 = 1\u00ff");
        error(1, 7, other, "!!!(#0 & #9 = 1)");
        error(2, 8, other, "!!!(!!! !#0 = 1)");
        error(1, 7, other, "#0 = 1 (((((((");
        error(1, 7, other, "#0 = 1 !!!!");
        index(vault, () -> vault.errorPlace(3));
        index(vault, () -> vault.errorPlace(-1));
        say(vault, "#0 = 1");
        is(NONE, vault.errorPlace(0));
        // the last byte of the longest text
        StringBuilder longest = new StringBuilder("#0 = 1");
        while (longest.length() < 159) {
            longest.append(' ');
        }
        error(1, 159, vault, longest + ")");
        error(1, 160, vault, longest + "&");
        is(0, kindOf(vault, longest + " "));
    }

    private static void type() {
        ColumnVault vault = fiveRows();
        int before = vault.version();
        is(0, vault.type(0));
        is(2, vault.type(word("#0")));
        is(4, vault.type(0x2000003c00000000L));
        is(5, vault.type(word("1")));
        is(before, vault.version());
        is(2, vault.count(0));
        is(13, vault.type(-1));
        is(1, vault.errorKind(0));
        is(5, vault.errorPlace(0));
        vault.clearText();
        for (int i = 1; i <= 19; i++) {
            is(8 * i, vault.type(word("((((((((")));
        }
        is(159, vault.type(word("(((((((")));
        state(vault, () -> vault.type(word("((")));
        is(159, vault.type(0));
        is(160, vault.type(0x28000000000000L));
        state(vault, () -> vault.type(1));
        is(160, vault.type(0));
        is(2, vault.errorKind(0));
        is(6, vault.errorPlace(0));
        is(160, vault.clearText());
    }

    private static void clearText() {
        ColumnVault vault = fiveRows();
        is(0, vault.clearText());
        vault.example(0);
        is(31, vault.clearText());
        is(0, vault.clearText());
        is(1, vault.errorKind(0));
        is(0, vault.errorPlace(0));
        is(1, vault.type('#'));
    }

    private static void example() {
        ColumnVault vault = vault(row(3, "b"), row(7, "a"), row(9, "a"), row(11, null), row(null, "c"), row(-3, null));
        int before = vault.version();
        String[] texts = {"#0 < 5 & !(#1 = b | #1 missing)", "#0 to -3 3 | #0 in 7 9 11 & !#0 = 9",
            "!(#0 missing) & (#0 > 2 | #0 < -2) & #0 to -9 9"};
        String[] holds = {"", "0 1 3 5", "0 1 2 5"};
        for (int which = 0; which < 3; which++) {
            vault.type(word("junk"));
            is(texts[which].length(), vault.example(which));
            int reads = vault.reads(0, false);
            int byCounts = vault.reads(0, true);
            rows(holds[which], vault, texts[which]);
            is(reads, vault.reads(0, false));
            is(byCounts, vault.reads(0, true));
        }
        is(before + 3, vault.version());
        argument(vault, () -> vault.example(3));
        argument(vault, () -> vault.example(-1));
        is(texts[2].length(), vault.clearText());
    }

    private static ColumnVault twoTables() {
        ColumnVault vault = vault(row(1, "a"), row(2, "b"), row(null, "c"), row(2, "b"), row(5, null), row(7, "b"));
        vault.addColumn(1, TEXT);
        vault.addColumn(1, NUMBER);
        addRow(vault, 1, "b", 2);
        addRow(vault, 1, null, null);
        addRow(vault, 1, "a", 5);
        addRow(vault, 1, "b", 2);
        return vault;
    }

    private static void join() {
        ColumnVault vault = twoTables();
        is(5, vault.join(0, 0, 1, 1, ColumnVault.INNER));
        pairs("1-0 1-3 3-0 3-3 4-2", vault, 5);
        is(8, vault.join(0, 0, 1, 1, ColumnVault.LEFT));
        pairs("0--1 1-0 1-3 2--1 3-0 3-3 4-2 5--1", vault, 8);
        is(3, vault.join(0, 0, 1, 1, ColumnVault.ANTI));
        pairs("0--1 2--1 5--1", vault, 3);
        is(7, vault.join(0, 1, 1, 0, ColumnVault.INNER));
        pairs("0-2 1-0 1-3 3-0 3-3 5-0 5-3", vault, 7);
        is(7, vault.join(0, 0, 0, 0, ColumnVault.INNER));
        pairs("0-0 1-1 1-3 3-1 3-3 4-4 5-5", vault, 7);
        is(6, vault.join(1, 0, 1, 0, ColumnVault.LEFT));
        pairs("0-0 0-3 1--1 2-2 3-0 3-3", vault, 6);
        // the numbers of the rows tell the order, not the order of the table
        vault.sort(0, 0, true, true);
        vault.sort(1, 1, true, true);
        is(5, vault.join(0, 0, 1, 1, ColumnVault.INNER));
        pairs("1-0 1-3 3-0 3-3 4-2", vault, 5);
        // of both tables the chosen rows alone
        rows("4 5", vault, "#0 in 5 7");
        say(vault, "#0 = a | #0 missing");
        is(2, vault.choose(1, ColumnVault.SET));
        is(1, vault.join(0, 0, 1, 1, ColumnVault.INNER));
        pairs("4-2", vault, 1);
        is(2, vault.join(0, 0, 1, 1, ColumnVault.LEFT));
        pairs("4-2 5--1", vault, 2);
        is(1, vault.join(0, 0, 1, 1, ColumnVault.ANTI));
        pairs("5--1", vault, 1);
        vault.turnChoice(1);
        is(0, vault.join(0, 0, 1, 1, ColumnVault.INNER));
        pairs("", vault, 0);
        is(2, vault.join(0, 0, 1, 1, ColumnVault.ANTI));
        // wrong calls leave the pairs as they are
        argument(vault, () -> vault.join(0, 0, 1, 0, 0));
        argument(vault, () -> vault.join(0, 0, 1, 1, 3));
        argument(vault, () -> vault.join(0, 0, 1, 1, -1));
        index(vault, () -> vault.join(0, 2, 1, 1, 3));
        index(vault, () -> vault.join(0, 0, 1, 2, 3));
        index(vault, () -> vault.join(0, 0, 2, 0, 0));
        index(vault, () -> vault.join(0, -1, 1, 1, 0));
        index(vault, () -> vault.join(-1, 0, 1, 1, 0));
        index(vault, () -> vault.join(0, 0, 3, 1, 0));
        pairs("4--1 5--1", vault, 2);
        ColumnVault full = new ColumnVault();
        full.addColumn(0, NUMBER);
        full.fill(0, 0, 1, 0, 40);
        is(1600, full.join(0, 0, 0, 0, ColumnVault.LEFT));
        is(39, full.pairAt(1599, false));
        is(38, full.pairAt(1598, true));
    }

    private static void pairAt() {
        ColumnVault vault = twoTables();
        index(vault, () -> vault.pairAt(0, true));
        vault.join(0, 0, 1, 1, ColumnVault.LEFT);
        is(1, vault.pairAt(2, false));
        is(3, vault.pairAt(2, true));
        is(5, vault.pairAt(7, false));
        is(NONE, vault.pairAt(7, true));
        index(vault, () -> vault.pairAt(8, true));
        index(vault, () -> vault.pairAt(-1, false));
        // they stay until the next join
        vault.remove(0, 1);
        vault.turnChoice(1);
        vault.joinErrors(0, 0, 0, 0);
        vault.group(0, 0);
        vault.back(vault.version());
        pairs("0--1 1-0 1-3 2--1 3-0 3-3 4-2 5--1", vault, 8);
    }

    private static void joinErrors() {
        ColumnVault vault = twoTables();
        vault.join(0, 0, 1, 1, ColumnVault.LEFT);
        is(0, vault.joinErrors(0, 0, 1, 1));
        is(0, vault.joinErrors(0, 1, 1, 0));
        is(0, vault.joinErrors(0, 1, 0, 1));
        vault.sort(1, 0, true, false);
        rows("2 5", vault, "#0 missing | #0 = 7");
        is(0, vault.joinErrors(0, 1, 1, 0));
        is(0, vault.joinErrors(1, 0, 0, 1));
        pairs("0--1 1-0 1-3 2--1 3-0 3-3 4-2 5--1", vault, 8);
        argument(vault, () -> vault.joinErrors(0, 0, 1, 0));
        index(vault, () -> vault.joinErrors(0, 2, 1, 0));
        index(vault, () -> vault.joinErrors(0, 0, 1, 2));
        index(vault, () -> vault.joinErrors(3, 0, 1, 0));
        index(vault, () -> vault.joinErrors(0, 0, -1, 0));
        ColumnVault full = new ColumnVault();
        full.addColumn(0, NUMBER);
        full.fill(0, 0, 1, 0, 40);
        is(0, full.joinErrors(0, 0, 0, 0));
    }

    private static void group() {
        ColumnVault vault = fiveRows();
        is(4, vault.group(0, 1));
        long[] values = {word("a"), word("ab"), word("b"), MISSING};
        for (int group = 0; group < 4; group++) {
            is(values[group], vault.groupAt(group, 0));
        }
        is(5, vault.group(0, 0));
        is(-1L, vault.groupAt(0, 0));
        is(3L, vault.groupAt(4, 0));
        rows("0 2 4", vault, "!#1 missing");
        is(3, vault.group(0, 1));
        is(3, vault.group(0, 0));
        rows("", vault, "#0 = 77");
        is(0, vault.group(0, 0));
        index(vault, () -> vault.groupAt(0, 0));
        vault.turnChoice(0);
        vault.set(0, 0, 0, 2);
        is(4, vault.group(0, 0));
        is(2L, vault.groupAt(3, 1));
        // wrong calls leave the groups as they are
        index(vault, () -> vault.group(0, 2));
        index(vault, () -> vault.group(0, -1));
        index(vault, () -> vault.group(3, 0));
        index(vault, () -> vault.group(1, 0));
        is(2L, vault.groupAt(3, 1));
        ColumnVault full = new ColumnVault();
        full.addColumn(0, NUMBER);
        full.fill(0, 0, 0, -1, 40);
        is(40, full.group(0, 0));
        is(-39L, full.groupAt(0, 0));
        is(0L, full.groupAt(39, 2));
    }

    private static void groupAt() {
        ColumnVault vault = vault(row(1, "a"), row(2, "b"), row(1, "c"), row(null, "d"), row(1, "e"), row(null, "f"));
        vault.sort(0, 1, true, false);
        vault.group(0, 0);
        long[][] due = {{1, 3, 4, 0}, {2, 1, 1, 1}, {MISSING, 2, 5, 3}};
        for (int group = 0; group < 3; group++) {
            for (int what = 0; what < 4; what++) {
                is(due[group][what], vault.groupAt(group, what));
            }
        }
        // the groups stay as they are, with the order and the numbers of then
        vault.sort(0, 1, false, false);
        vault.remove(0, 0);
        vault.set(0, 1, 0, 9);
        vault.turnChoice(0);
        for (int group = 0; group < 3; group++) {
            for (int what = 0; what < 4; what++) {
                is(due[group][what], vault.groupAt(group, what));
            }
        }
        argument(vault, () -> vault.groupAt(0, 4));
        argument(vault, () -> vault.groupAt(2, -1));
        index(vault, () -> vault.groupAt(3, 4));
        index(vault, () -> vault.groupAt(-1, 0));
    }

    private static void total() {
        ColumnVault vault = vault(row(4, "b"), row(-1, null), row(4, "ab"), row(null, "a"), row(9, "b"));
        long[] numbers = {4, 16, -1, 9, 4, 3};
        for (int what = 0; what < 6; what++) {
            is(numbers[what], vault.total(0, 0, what));
        }
        is(4L, vault.total(0, 1, 0));
        argument(vault, () -> vault.total(0, 1, 1));
        is(word("a"), vault.total(0, 1, 2));
        is(word("b"), vault.total(0, 1, 3));
        is(word("ab"), vault.total(0, 1, 4));
        is(3L, vault.total(0, 1, 5));
        rows("1 3 4", vault, "#0 in -1 9 | #0 missing");
        is(2L, vault.total(0, 0, 0));
        is(8L, vault.total(0, 0, 1));
        is(-1L, vault.total(0, 0, 4));
        rows("3", vault, "#0 missing");
        is(0L, vault.total(0, 0, 0));
        is(0L, vault.total(0, 0, 1));
        is(0L, vault.total(0, 0, 5));
        for (int what = 2; what < 5; what++) {
            int about = what;
            element(vault, () -> vault.total(0, 0, about));
        }
        argument(vault, () -> vault.total(0, 0, 6));
        argument(vault, () -> vault.total(0, 0, -1));
        index(vault, () -> vault.total(0, 2, 6));
        index(vault, () -> vault.total(0, -1, 0));
        index(vault, () -> vault.total(3, 0, 0));
        ColumnVault full = new ColumnVault();
        full.addColumn(0, NUMBER);
        full.fill(0, 0, 1000000, 0, 40);
        is(40000000L, full.total(0, 0, 1));
        is(1L, full.total(0, 0, 5));
    }

    private static void groupTotal() {
        ColumnVault vault = vault(row(4, "b"), row(-1, null), row(6, "b"), row(null, "a"), row(4, "b"), row(null, "b"));
        index(vault, () -> vault.groupTotal(0, 0, 0));
        vault.group(0, 1);
        long[] numbers = {3, 14, 4, 6, 4, 2};
        for (int what = 0; what < 6; what++) {
            is(numbers[what], vault.groupTotal(1, 0, what));
        }
        is(4L, vault.groupTotal(1, 1, 0));
        is(word("b"), vault.groupTotal(1, 1, 4));
        is(0L, vault.groupTotal(2, 1, 0));
        is(-1L, vault.groupTotal(2, 0, 1));
        is(0L, vault.groupTotal(0, 0, 1));
        element(vault, () -> vault.groupTotal(0, 0, 2));
        element(vault, () -> vault.groupTotal(0, 0, 3));
        element(vault, () -> vault.groupTotal(0, 0, 4));
        // the table as it was then
        vault.addColumn(0, NUMBER);
        vault.set(0, 0, 0, 100);
        vault.remove(0, 2);
        is(14L, vault.groupTotal(1, 0, 1));
        index(vault, () -> vault.groupTotal(1, 2, 0));
        index(vault, () -> vault.groupTotal(1, -1, 0));
        index(vault, () -> vault.groupTotal(3, 0, 9));
        index(vault, () -> vault.groupTotal(-1, 0, 0));
        argument(vault, () -> vault.groupTotal(1, 1, 1));
        argument(vault, () -> vault.groupTotal(0, 0, 6));
        argument(vault, () -> vault.groupTotal(0, 0, -1));
        // columns of then are there, even if the table has none now
        ColumnVault other = new ColumnVault();
        other.addColumn(0, NUMBER);
        other.fill(0, 0, 5, 1, 3);
        other.group(0, 0);
        other.back(0);
        is(6L, other.groupTotal(1, 0, 1));
        index(other, () -> other.groupTotal(1, 1, 0));
    }

    private static void running() {
        ColumnVault vault = vault(row(4, "b"), row(-1, null), row(null, "b"), row(7, "a"));
        long[] told = {4, 3, 3, 10};
        long[] sorted = {7, 11, 10, 10};
        for (int place = 0; place < 4; place++) {
            is(told[place], vault.running(0, 0, place));
        }
        rows("", vault, "#0 = 100");
        vault.sort(0, 0, true, false);
        for (int place = 0; place < 4; place++) {
            is(sorted[place], vault.running(0, 0, place));
        }
        argument(vault, () -> vault.running(0, 1, 0));
        index(vault, () -> vault.running(0, 1, 4));
        index(vault, () -> vault.running(0, 0, -1));
        index(vault, () -> vault.running(0, 2, 0));
        index(vault, () -> vault.running(3, 0, 0));
        index(vault, () -> vault.running(-1, 0, 0));
    }

    private static void rank() {
        ColumnVault vault = vault(row(4, "b"), row(-1, null), row(2, "b"), row(4, "a"), row(5, "b"), row(4, "b"), row(7, null), row(null, "b"));
        int[] ranks = {2, 1, 1, 1, 4, 2, 2};
        rows("", vault, "#0 = 100");
        vault.sort(0, 0, true, false);
        for (int row = 0; row < 7; row++) {
            is(ranks[row], vault.rank(0, 1, 0, row));
            is(1, vault.rank(0, 0, 0, row));
        }
        is(2, vault.rank(0, 0, 1, 0));
        is(1, vault.rank(0, 0, 1, 3));
        is(3, vault.rank(0, 1, 0, 6) + vault.rank(0, 1, 0, 1));
        element(vault, () -> vault.rank(0, 1, 0, 7));
        element(vault, () -> vault.rank(0, 0, 1, 1));
        index(vault, () -> vault.rank(0, 1, 0, 8));
        index(vault, () -> vault.rank(0, 1, 0, -1));
        index(vault, () -> vault.rank(0, 2, 0, 7));
        index(vault, () -> vault.rank(0, 1, 2, 7));
        index(vault, () -> vault.rank(3, 1, 0, 7));
    }

    private static void previous() {
        ColumnVault vault = vault(row(4, "b"), row(-1, null), row(2, "b"), row(4, "a"), row(5, "b"), row(7, null));
        int[] told = {NONE, NONE, 0, NONE, 2, 1};
        rows("", vault, "#0 = 100");
        for (int row = 0; row < 6; row++) {
            is(told[row], vault.previous(0, 1, row));
        }
        is(0, vault.previous(0, 0, 3));
        vault.sort(0, 0, true, false);
        order("5 4 0 3 2 1", vault);
        int[] sorted = {4, 5, 0, NONE, NONE, NONE};
        for (int row = 0; row < 6; row++) {
            is(sorted[row], vault.previous(0, 1, row));
        }
        index(vault, () -> vault.previous(0, 1, 6));
        index(vault, () -> vault.previous(0, 1, -1));
        index(vault, () -> vault.previous(0, 2, 0));
        index(vault, () -> vault.previous(3, 0, 0));
    }

    private static void between() {
        ColumnVault vault = fiveRows();
        rows("", vault, "#0 = 100");
        is(3, vault.between(0, 0, 0, 2));
        is(5, vault.between(0, 0, -1000000, 1000000));
        is(1, vault.between(0, 0, 1, 1));
        is(0, vault.between(0, 0, 2, 0));
        is(2, vault.between(0, 1, word("a"), word("azzzzzz")));
        is(3, vault.between(0, 1, word("a"), word("b")));
        is(2, vault.between(0, 1, word("aa"), word("zzzzzzz")));
        is(0, vault.between(0, 1, word("b"), word("aa")));
        argument(vault, () -> vault.between(0, 0, 1, 1000001));
        argument(vault, () -> vault.between(0, 0, -1000001, 0));
        argument(vault, () -> vault.between(0, 0, MISSING, 0));
        argument(vault, () -> vault.between(0, 1, word("a"), MISSING));
        argument(vault, () -> vault.between(0, 1, 0, word("a")));
        argument(vault, () -> vault.between(0, 1, word("b"), word("A")));
        index(vault, () -> vault.between(0, 2, MISSING, 0));
        index(vault, () -> vault.between(0, -1, 0, 0));
        index(vault, () -> vault.between(3, 0, 0, 0));
    }

    private static void nearest() {
        ColumnVault vault = vault(row(4, "b"), row(-1, null), row(null, "ab"), row(9, "d"));
        rows("", vault, "#0 = 100");
        is(4L, vault.nearest(0, 0, 4, true));
        is(4L, vault.nearest(0, 0, 4, false));
        is(4L, vault.nearest(0, 0, 8, true));
        is(9L, vault.nearest(0, 0, 5, false));
        is(-1L, vault.nearest(0, 0, -1000000, false));
        is(9L, vault.nearest(0, 0, 1000000, true));
        element(vault, () -> vault.nearest(0, 0, -2, true));
        element(vault, () -> vault.nearest(0, 0, 10, false));
        is(word("ab"), vault.nearest(0, 1, word("azzzzzz"), true));
        is(word("b"), vault.nearest(0, 1, word("azzzzzz"), false));
        is(word("ab"), vault.nearest(0, 1, word("a"), false));
        element(vault, () -> vault.nearest(0, 1, word("a"), true));
        element(vault, () -> vault.nearest(0, 1, word("da"), false));
        argument(vault, () -> vault.nearest(0, 0, 1000001, true));
        argument(vault, () -> vault.nearest(0, 0, MISSING, false));
        argument(vault, () -> vault.nearest(0, 1, 5, true));
        argument(vault, () -> vault.nearest(0, 1, MISSING, true));
        index(vault, () -> vault.nearest(0, 2, MISSING, true));
        index(vault, () -> vault.nearest(0, -1, 0, true));
        index(vault, () -> vault.nearest(3, 0, 0, true));
        vault.addColumn(1, NUMBER);
        element(vault, () -> vault.nearest(1, 0, 0, true));
    }

    private static void alike() {
        ColumnVault vault = vault(row(1, "a"), row(1, "a"), row(1, null), row(1, "a"), row(null, null), row(2, "b"), row(null, "a"));
        vault.addColumn(1, NUMBER);
        vault.addColumn(1, TEXT);
        addRow(vault, 1, 1, "a");
        addRow(vault, 1, null, null);
        addRow(vault, 1, 1, "a");
        addRow(vault, 1, 3, "c");
        addRow(vault, 1, null, null);
        compare("4 6 2 3", vault, 0, 1);
        compare("2 6 2 1", vault, 1, 0);
        compare("0 5 5 0", vault, 0, 0);
        // chosen rows alone
        rows("2 5", vault, "#0 = 2 | #1 missing & #0 = 1");
        compare("2 5 0 2", vault, 0, 1);
        say(vault, "#0 = 1");
        vault.choose(0, ColumnVault.SET);
        vault.choose(1, ColumnVault.SET);
        compare("2 2 1 1", vault, 0, 1);
        compare("0 2 1 0", vault, 1, 0);
        argument(vault, () -> vault.alike(0, 1, 4));
        argument(vault, () -> vault.alike(0, 1, -1));
        argument(vault, () -> vault.alike(0, 2, 0));
        index(vault, () -> vault.alike(0, 3, 4));
        index(vault, () -> vault.alike(-1, 0, 0));
        vault.addColumn(2, TEXT);
        vault.addColumn(2, NUMBER);
        argument(vault, () -> vault.alike(0, 2, 0));
        vault.addColumn(0, TEXT);
        argument(vault, () -> vault.alike(0, 1, 0));
        argument(vault, () -> vault.alike(1, 0, 0));
        ColumnVault kinds = vault();
        kinds.addColumn(1, TEXT);
        kinds.addColumn(1, TEXT);
        argument(kinds, () -> kinds.alike(0, 1, 0));
        // without columns all rows are alike
        ColumnVault bare = new ColumnVault();
        bare.addRow(0);
        bare.addRow(0);
        bare.addRow(1);
        compare("1 1 1 0", bare, 0, 1);
        compare("2 1 0 1", bare, 0, 2);
        compare("0 0 0 0", bare, 2, 2);
    }

    private static void compare(String due, ColumnVault vault, int table, int other) {
        StringBuilder got = new StringBuilder();
        for (int what = 0; what < 4; what++) {
            got.append(what > 0 ? " " : "").append(vault.alike(table, other, what));
        }
        is(due, got.toString());
    }

    private static void errors() {
        ColumnVault vault = new ColumnVault();
        is(0, vault.errors(0));
        vault = vault(row(4, "b"), row(-1, null), row(2, "b"), row(4, "a"), row(null, "b"), row(null, null));
        vault.addColumn(0, NUMBER);
        vault.addColumn(0, TEXT);
        vault.set(0, 2, 2, 8);
        vault.sort(0, 1, true, true);
        say(vault, "#0 < 3");
        vault.choose(0, ColumnVault.SET);
        int before = vault.version();
        vault.group(0, 0);
        is(0, vault.errors(0));
        order("1 5 0 2 4 3", vault);
        is("1 2", chosen(vault));
        is(before, vault.version());
        is(2L, vault.groupAt(1, 0));
        ColumnVault told = vault;
        index(told, () -> told.errors(3));
        index(told, () -> told.errors(-1));
        ColumnVault full = new ColumnVault();
        for (int column = 0; column < 4; column++) {
            full.addColumn(2, NUMBER);
        }
        full.fill(2, 1, -5, 1, 40);
        full.sort(2, 1, true, false);
        is(0, full.errors(2));
    }

    private static void meanOf() {
        ColumnVault vault = vault(row(4, "b"), row(-1, null), row(null, "b"), row(7, "a"), row(1, "a"));
        is(11 / 4.0, vault.meanOf(0, 0));
        rows("0 2 3", vault, "#0 missing | #0 > 1");
        is(5.5, vault.meanOf(0, 0));
        rows("0 1 2 4", vault, "#0 missing | #0 < 5");
        is(4.0 / 3.0, vault.meanOf(0, 0));
        rows("2", vault, "#0 missing");
        is(0.0, vault.meanOf(0, 0));
        rows("", vault, "#0 = 100");
        is(0.0, vault.meanOf(0, 0));
        argument(vault, () -> vault.meanOf(0, 1));
        index(vault, () -> vault.meanOf(0, 2));
        index(vault, () -> vault.meanOf(0, -1));
        index(vault, () -> vault.meanOf(3, 0));
    }

    private static void chosenShare() {
        ColumnVault vault = fiveRows();
        is(1.0f, vault.chosenShare(0));
        is(0.0f, vault.chosenShare(1));
        rows("0 1 2", vault, "#0 > 0");
        is(3.0f / 5.0f, vault.chosenShare(0));
        vault.remove(0, 4);
        vault.remove(0, 0);
        is(2.0f / 3.0f, vault.chosenShare(0));
        rows("", vault, "#0 = 100");
        is(0.0f, vault.chosenShare(0));
        index(vault, () -> vault.chosenShare(3));
        index(vault, () -> vault.chosenShare(-1));
    }
}
