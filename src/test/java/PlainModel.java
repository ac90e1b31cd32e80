import java.util.ArrayDeque;
import java.util.ArrayList;
import java.util.Collections;
import java.util.Comparator;
import java.util.HashMap;
import java.util.HashSet;
import java.util.List;
import java.util.Map;
import java.util.NoSuchElementException;
import java.util.Objects;
import java.util.TreeMap;
import java.util.TreeSet;

/**
 * The document told a second time, as plainly as the whole Java library allows, to compare the class with.
 * Values are Long, String or null; a filter is worked out row by row.
 */
final class PlainModel {
    private static final class Row {
        final List<Object> values = new ArrayList<>();
        boolean chosen = true;

        Row copy() {
            Row row = new Row();
            row.values.addAll(values);
            row.chosen = chosen;
            return row;
        }
    }

    private static final class Table {
        final List<Integer> kinds = new ArrayList<>();
        final List<Row> rows = new ArrayList<>();
        List<Row> order = new ArrayList<>();

        Table copy() {
            Table table = new Table();
            table.kinds.addAll(kinds);
            Map<Row, Row> twins = new HashMap<>();
            for (Row row : rows) {
                Row twin = row.copy();
                twins.put(row, twin);
                table.rows.add(twin);
            }
            for (Row row : order) {
                table.order.add(twins.get(row));
            }
            return table;
        }

        List<Row> chosenRows() {
            return rows.stream().filter(row -> row.chosen).toList();
        }
    }

    private record Kept(int number, List<Table> tables) {
    }

    private record Group(Object value, List<Row> rows) {
    }

    private List<Table> tables = List.of(new Table(), new Table(), new Table());
    private final ArrayDeque<Kept> versions = new ArrayDeque<>();
    private int number = 0;
    private StringBuilder text = new StringBuilder();
    private List<int[]> pairs = new ArrayList<>();
    private List<Group> groups = new ArrayList<>();
    private Table grouped = new Table();

    PlainModel() {
        keep();
    }

    private void keep() {
        versions.addLast(new Kept(number, tables.stream().map(Table::copy).toList()));
        if (versions.size() > 12) {
            versions.removeFirst();
        }
    }

    private void changed() {
        number++;
        keep();
    }

    // ---- checks

    private Table table(int table) {
        return tables.get(Objects.checkIndex(table, 3));
    }

    private static void column(Table table, int column) {
        Objects.checkIndex(column, table.kinds.size());
    }

    private static Row row(Table table, int row) {
        return table.rows.get(Objects.checkIndex(row, table.rows.size()));
    }

    private static void argument(boolean isFit) {
        if (!isFit) {
            throw new IllegalArgumentException();
        }
    }

    private static void state(boolean isFit) {
        if (!isFit) {
            throw new IllegalStateException();
        }
    }

    private static void element(boolean isThere) {
        if (!isThere) {
            throw new NoSuchElementException();
        }
    }

    private static boolean isIn(long value, long least, long most) {
        return least <= value && value <= most;
    }

    private static Object value(int kind, long told) {
        if (kind == ColumnVault.NUMBER) {
            argument(isIn(told, -1000000, 1000000));
            return told;
        }
        StringBuilder letters = new StringBuilder();
        for (long rest = told; rest != 0; rest >>>= 8) {
            letters.insert(0, (char) (rest & 255));
        }
        argument(letters.toString().matches("[a-z]{1,7}"));
        return letters.toString();
    }

    private static long told(Object value) {
        if (value == null) {
            return ColumnVault.MISSING;
        }
        if (value instanceof Long number) {
            return number;
        }
        long bytes = 0;
        for (char letter : value.toString().toCharArray()) {
            bytes = bytes * 256 + letter;
        }
        return bytes;
    }

    private static int compare(Object one, Object two) {
        if (one instanceof Long number) {
            return number.compareTo((Long) two);
        }
        return one.toString().compareTo(two.toString());
    }

    private static final Comparator<Object> RISING = PlainModel::compare;

    // ---- promises

    int addColumn(int table, int kind) {
        Table own = table(table);
        argument(isIn(kind, 0, 1));
        state(own.kinds.size() < 4);
        own.kinds.add(kind);
        own.rows.forEach(row -> row.values.add(null));
        changed();
        return own.kinds.size() - 1;
    }

    private Row appendRow(Table table) {
        Row row = new Row();
        row.values.addAll(Collections.nCopies(table.kinds.size(), null));
        table.rows.add(row);
        table.order.add(row);
        return row;
    }

    int addRow(int table) {
        Table own = table(table);
        state(own.rows.size() < 40);
        appendRow(own);
        changed();
        return own.rows.size() - 1;
    }

    int fill(int table, int column, int first, int step, int many) {
        Table own = table(table);
        column(own, column);
        argument(own.kinds.get(column) == ColumnVault.NUMBER);
        argument(isIn(first, -1000000, 1000000) && isIn(step, -1000, 1000) && isIn(many, 1, 40));
        for (long i = 0; i < many; i++) {
            argument(isIn(first + step * i, -1000000, 1000000));
        }
        state(own.rows.size() + many <= 40);
        for (long i = 0; i < many; i++) {
            appendRow(own).values.set(column, first + step * i);
        }
        changed();
        return own.rows.size();
    }

    boolean set(int table, int row, int column, long value) {
        Table own = table(table);
        Row ownRow = row(own, row);
        column(own, column);
        Object put = value == ColumnVault.MISSING ? null : value(own.kinds.get(column), value);
        Object before = ownRow.values.set(column, put);
        changed();
        return !Objects.equals(put, before);
    }

    int remove(int table, int row) {
        Table own = table(table);
        Row gone = row(own, row);
        own.rows.remove(gone);
        own.order.remove(gone);
        changed();
        return own.rows.size();
    }

    long get(int table, int row, int column) {
        Table own = table(table);
        column(own, column);
        return told(row(own, row).values.get(column));
    }

    int size(int table, int what) {
        Table own = table(table);
        argument(isIn(what, 0, 3));
        return switch (what) {
            case 0 -> own.rows.size();
            case 1 -> own.kinds.size();
            case 2 -> own.chosenRows().size();
            default -> (int) own.rows.stream().flatMap(row -> row.values.stream()).filter(Objects::isNull).count();
        };
    }

    int kind(int table, int column) {
        Table own = table(table);
        column(own, column);
        return own.kinds.get(column);
    }

    int version() {
        return number;
    }

    int back(int version) {
        Kept found = versions.stream().filter(kept -> kept.number == version).findFirst().orElseThrow(IndexOutOfBoundsException::new);
        tables = found.tables.stream().map(Table::copy).toList();
        changed();
        return number;
    }

    int sort(int table, int column, boolean isDown, boolean isMissingFirst) {
        Table own = table(table);
        column(own, column);
        Comparator<Object> order = isDown ? RISING.reversed() : RISING;
        Comparator<Object> whole = isMissingFirst ? Comparator.nullsFirst(order) : Comparator.nullsLast(order);
        List<Row> before = own.order;
        own.order = new ArrayList<>(before);
        own.order.sort((one, two) -> whole.compare(one.values.get(column), two.values.get(column)));
        int moved = 0;
        for (int i = 0; i < before.size(); i++) {
            moved += before.get(i) == own.order.get(i) ? 0 : 1;
        }
        changed();
        return moved;
    }

    int rowAt(int table, int place) {
        Table own = table(table);
        return own.rows.indexOf(own.order.get(Objects.checkIndex(place, own.order.size())));
    }

    int placeOf(int table, int row) {
        Table own = table(table);
        return own.order.indexOf(row(own, row));
    }

    boolean isChosen(int table, int row) {
        return row(table(table), row).chosen;
    }

    int choose(int table, int how) {
        Table own = table(table);
        argument(isIn(how, 0, 3));
        Ask filter = filter(own);
        for (Row row : own.rows) {
            boolean holds = filter.holds(row, new int[1], false);
            row.chosen = switch (how) {
                case ColumnVault.SET -> holds;
                case ColumnVault.AND -> row.chosen && holds;
                case ColumnVault.OR -> row.chosen || holds;
                default -> row.chosen && !holds;
            };
        }
        changed();
        return own.chosenRows().size();
    }

    int turnChoice(int table) {
        Table own = table(table);
        own.rows.forEach(row -> row.chosen = !row.chosen);
        changed();
        return own.chosenRows().size();
    }

    int count(int table) {
        Table own = table(table);
        return filter(own).rowsOf(own);
    }

    int reads(int table, boolean isByCounts) {
        Table own = table(table);
        Ask filter = filter(own);
        int[] reads = new int[1];
        own.rows.forEach(row -> filter.holds(row, reads, isByCounts));
        return reads[0];
    }

    int errorKind(int table) {
        return new Parse(table(table)).fault().kind;
    }

    int errorPlace(int table) {
        return new Parse(table(table)).fault().place;
    }

    int type(long bytes) {
        StringBuilder put = new StringBuilder();
        for (int i = 0; i < 8; i++) {
            char sign = (char) (bytes >>> (56 - 8 * i) & 255);
            put.append(sign == 0 ? "" : String.valueOf(sign));
        }
        state(text.length() + put.length() <= 160);
        text.append(put);
        return text.length();
    }

    int clearText() {
        int before = text.length();
        text = new StringBuilder();
        return before;
    }

    int example(int which) {
        argument(isIn(which, 0, 2));
        text = new StringBuilder(new String[] {
            "#0 < 5 & !(#1 = b | #1 missing)",
            "#0 to -3 3 | #0 in 7 9 11 & !#0 = 9",
            "!(#0 missing) & (#0 > 2 | #0 < -2) & #0 to -9 9",
        }[which]);
        return text.length();
    }

    private static boolean isPartner(Row left, int column, Row right, int other) {
        Object value = left.values.get(column);
        return value != null && value.equals(right.values.get(other));
    }

    int join(int left, int column, int right, int other, int how) {
        Table one = table(left);
        column(one, column);
        Table two = table(right);
        column(two, other);
        argument(one.kinds.get(column).equals(two.kinds.get(other)));
        argument(isIn(how, 0, 2));
        pairs = new ArrayList<>();
        for (Row row : one.chosenRows()) {
            List<Row> partners = two.chosenRows().stream().filter(partner -> isPartner(row, column, partner, other)).toList();
            if (partners.isEmpty() && how != ColumnVault.INNER) {
                pairs.add(new int[] {one.rows.indexOf(row), -1});
            }
            if (how != ColumnVault.ANTI) {
                partners.forEach(partner -> pairs.add(new int[] {one.rows.indexOf(row), two.rows.indexOf(partner)}));
            }
        }
        return pairs.size();
    }

    int pairAt(int pair, boolean isRight) {
        return pairs.get(Objects.checkIndex(pair, pairs.size()))[isRight ? 1 : 0];
    }

    int joinErrors(int left, int column, int right, int other) {
        Table one = table(left);
        column(one, column);
        Table two = table(right);
        column(two, other);
        argument(one.kinds.get(column).equals(two.kinds.get(other)));
        return 0;
    }

    int group(int table, int column) {
        Table own = table(table);
        column(own, column);
        grouped = own.copy();
        TreeMap<Object, List<Row>> byValue = new TreeMap<>(Comparator.nullsLast(RISING));
        for (Row row : grouped.order) {
            if (row.chosen) {
                byValue.computeIfAbsent(row.values.get(column), value -> new ArrayList<>()).add(row);
            }
        }
        groups = new ArrayList<>();
        byValue.forEach((value, rows) -> groups.add(new Group(value, rows)));
        return groups.size();
    }

    private Group group(int group) {
        return groups.get(Objects.checkIndex(group, groups.size()));
    }

    long groupAt(int group, int what) {
        Group own = group(group);
        argument(isIn(what, 0, 3));
        return switch (what) {
            case 0 -> told(own.value);
            case 1 -> own.rows.size();
            case 2 -> grouped.rows.indexOf(own.rows.get(0));
            default -> grouped.rows.indexOf(own.rows.get(own.rows.size() - 1));
        };
    }

    private static long totalOf(Table table, List<Row> rows, int column, int what) {
        argument(isIn(what, 0, 5) && !(what == 1 && table.kinds.get(column) == ColumnVault.TEXT));
        List<Object> values = rows.stream().map(row -> row.values.get(column)).filter(Objects::nonNull).sorted(RISING).toList();
        element(!values.isEmpty() || !isIn(what, 2, 4));
        return switch (what) {
            case 0 -> values.size();
            case 1 -> values.stream().mapToLong(PlainModel::told).sum();
            case 2 -> told(values.get(0));
            case 3 -> told(values.get(values.size() - 1));
            case 4 -> told(values.get((values.size() - 1) / 2));
            default -> new HashSet<>(values).size();
        };
    }

    long total(int table, int column, int what) {
        Table own = table(table);
        column(own, column);
        return totalOf(own, own.chosenRows(), column, what);
    }

    long groupTotal(int group, int column, int what) {
        Group own = group(group);
        column(grouped, column);
        return totalOf(grouped, own.rows, column, what);
    }

    long running(int table, int column, int place) {
        Table own = table(table);
        column(own, column);
        Objects.checkIndex(place, own.rows.size());
        argument(own.kinds.get(column) == ColumnVault.NUMBER);
        return totalOf(own, own.order.subList(0, place + 1), column, 1);
    }

    int rank(int table, int by, int column, int row) {
        Table own = table(table);
        column(own, by);
        column(own, column);
        Row ownRow = row(own, row);
        Object value = ownRow.values.get(column);
        element(value != null);
        int rank = 1;
        for (Row other : own.rows) {
            boolean isSame = Objects.equals(other.values.get(by), ownRow.values.get(by));
            Object otherValue = other.values.get(column);
            rank += isSame && otherValue != null && compare(otherValue, value) < 0 ? 1 : 0;
        }
        return rank;
    }

    int previous(int table, int by, int row) {
        Table own = table(table);
        column(own, by);
        Row ownRow = row(own, row);
        int found = -1;
        for (Row other : own.order) {
            if (other == ownRow) {
                break;
            }
            if (Objects.equals(other.values.get(by), ownRow.values.get(by))) {
                found = own.rows.indexOf(other);
            }
        }
        return found;
    }

    private static TreeSet<Object> values(Table table, int column) {
        TreeSet<Object> values = new TreeSet<>(RISING);
        table.rows.stream().map(row -> row.values.get(column)).filter(Objects::nonNull).forEach(values::add);
        return values;
    }

    int between(int table, int column, long from, long to) {
        Table own = table(table);
        column(own, column);
        Object least = value(own.kinds.get(column), from);
        Object most = value(own.kinds.get(column), to);
        return (int) own.rows.stream().map(row -> row.values.get(column)).filter(Objects::nonNull)
            .filter(value -> compare(least, value) <= 0 && compare(value, most) <= 0).count();
    }

    long nearest(int table, int column, long value, boolean isBelow) {
        Table own = table(table);
        column(own, column);
        Object wanted = value(own.kinds.get(column), value);
        Object found = isBelow ? values(own, column).floor(wanted) : values(own, column).ceiling(wanted);
        element(found != null);
        return told(found);
    }

    int alike(int table, int other, int what) {
        Table one = table(table);
        Table two = table(other);
        argument(one.kinds.equals(two.kinds));
        argument(isIn(what, 0, 3));
        List<List<Object>> ones = new ArrayList<>(one.chosenRows().stream().map(row -> row.values).toList());
        List<List<Object>> twos = two.chosenRows().stream().map(row -> row.values).toList();
        if (what == 0) {
            twos.forEach(ones::remove);
            return ones.size();
        }
        HashSet<List<Object>> found = new HashSet<>(ones);
        if (what == 1) {
            found.addAll(twos);
        } else if (what == 2) {
            found.retainAll(new HashSet<>(twos));
        } else {
            found.removeAll(new HashSet<>(twos));
        }
        return found.size();
    }

    int errors(int table) {
        table(table);
        return 0;
    }

    double meanOf(int table, int column) {
        Table own = table(table);
        column(own, column);
        argument(own.kinds.get(column) == ColumnVault.NUMBER);
        long many = totalOf(own, own.chosenRows(), column, 0);
        return many == 0 ? 0.0 : (double) totalOf(own, own.chosenRows(), column, 1) / (double) many;
    }

    float chosenShare(int table) {
        Table own = table(table);
        return own.rows.isEmpty() ? 0.0f : (float) own.chosenRows().size() / (float) own.rows.size();
    }

    // ---- filters

    /** Something that is asked about a row; reads are counted as they happen. */
    private abstract static class Ask {
        abstract boolean holds(Row row, int[] reads, boolean isByCounts);

        int rowsOf(Table table) {
            return (int) table.rows.stream().filter(row -> holds(row, new int[1], false)).count();
        }
    }

    private static final class Many extends Ask {
        final boolean isPart;
        final List<Ask> told;
        final List<Ask> byCounts;

        Many(boolean isPart, List<Ask> told, Table table) {
            this.isPart = isPart;
            this.told = told;
            byCounts = new ArrayList<>(told);
            Comparator<Ask> byRows = Comparator.comparingInt(ask -> ask.rowsOf(table));
            byCounts.sort(isPart ? byRows : byRows.reversed());
        }

        @Override
        boolean holds(Row row, int[] reads, boolean isByCounts) {
            for (Ask ask : isByCounts ? byCounts : told) {
                if (ask.holds(row, reads, isByCounts) != isPart) {
                    return !isPart;
                }
            }
            return isPart;
        }
    }

    private static final class Not extends Ask {
        final Ask inner;

        Not(Ask inner) {
            this.inner = inner;
        }

        @Override
        boolean holds(Row row, int[] reads, boolean isByCounts) {
            return !inner.holds(row, reads, isByCounts);
        }
    }

    private static final class Test extends Ask {
        final int column;
        final String asks;
        final List<Object> values;

        Test(int column, String asks, List<Object> values) {
            this.column = column;
            this.asks = asks;
            this.values = values;
        }

        @Override
        boolean holds(Row row, int[] reads, boolean isByCounts) {
            reads[0]++;
            Object value = row.values.get(column);
            if (value == null || asks.equals("missing")) {
                return value == null && asks.equals("missing");
            }
            return switch (asks) {
                case "<" -> compare(value, values.get(0)) < 0;
                case ">" -> compare(value, values.get(0)) > 0;
                case "to" -> compare(values.get(0), value) <= 0 && compare(value, values.get(1)) <= 0;
                default -> values.contains(value);
            };
        }
    }

    private static final class Fault extends RuntimeException {
        private static final long serialVersionUID = 1;
        final int kind;
        final int place;

        Fault(int kind, int place) {
            this.kind = kind;
            this.place = place;
        }
    }

    private Ask filter(Table table) {
        Parse parse = new Parse(table);
        state(parse.fault().kind == 0);
        return parse.whole;
    }

    /** Reads with the text as it stands, sign by sign. */
    private final class Parse {
        final Table table;
        final String signs = text.toString();
        int at = 0;
        Ask whole = null;

        Parse(Table table) {
            this.table = table;
        }

        Fault fault() {
            try {
                whole = filter(0);
                if (!rest().isEmpty()) {
                    throw new Fault(1, at);
                }
                return new Fault(0, -1);
            } catch (Fault fault) {
                return fault;
            }
        }

        /** What is left behind blanks. */
        String rest() {
            while (signs.startsWith(" ", at)) {
                at++;
            }
            return signs.substring(at);
        }

        boolean takes(String sign) {
            boolean isThere = rest().startsWith(sign);
            at += isThere ? sign.length() : 0;
            return isThere;
        }

        Ask filter(int open) {
            List<Ask> parts = new ArrayList<>();
            do {
                List<Ask> pieces = new ArrayList<>();
                do {
                    pieces.add(piece(open, 0));
                } while (takes("&"));
                parts.add(new Many(true, pieces, table));
            } while (takes("|"));
            return new Many(false, parts, table);
        }

        Ask piece(int open, int turns) {
            if (takes("!")) {
                if (turns == 3) {
                    throw new Fault(2, at - 1);
                }
                return new Not(piece(open, turns + 1));
            }
            if (takes("(")) {
                if (open == 6) {
                    throw new Fault(2, at - 1);
                }
                Ask inner = filter(open + 1);
                if (!takes(")")) {
                    throw new Fault(1, at);
                }
                return inner;
            }
            if (!takes("#")) {
                throw new Fault(1, at);
            }
            return test(at - 1);
        }

        Test test(int hash) {
            if (at == signs.length() || !"0123456789".contains(signs.substring(at, at + 1))) {
                throw new Fault(1, at);
            }
            int column = signs.charAt(at) - '0';
            if (column >= table.kinds.size()) {
                throw new Fault(2, hash);
            }
            at++;
            String asks = rest().replaceFirst("(?s)^([a-z]+|[<>=]|).*", "$1");
            if (!List.of("<", ">", "=", "to", "in", "missing").contains(asks)) {
                throw new Fault(1, at);
            }
            at += asks.length();
            List<Object> values = new ArrayList<>();
            int least = asks.equals("missing") ? 0 : asks.equals("to") ? 2 : 1;
            while (values.size() < least || asks.equals("in") && rest().matches("(?s)([a-z]|-?[0-9]).*")) {
                values.add(value(table.kinds.get(column), values.size()));
            }
            return new Test(column, asks, values);
        }

        Object value(int kind, int ahead) {
            String token = rest().replaceFirst("(?s)^([a-z]+|-?[0-9]+|).*", "$1");
            if (token.isEmpty()) {
                throw new Fault(1, at);
            }
            boolean isText = token.matches("[a-z]+");
            boolean isFit = isText ? token.length() <= 7
                : new java.math.BigInteger(token).abs().compareTo(java.math.BigInteger.valueOf(1000000)) <= 0;
            if (!isFit || ahead == 6) {
                throw new Fault(2, at);
            }
            if (isText != (kind == ColumnVault.TEXT)) {
                throw new Fault(3, at);
            }
            at += token.length();
            return isText ? (Object) token : (Object) Long.valueOf(token);
        }
    }
}
