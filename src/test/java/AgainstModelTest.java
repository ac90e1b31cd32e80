import java.util.Map;
import java.util.NoSuchElementException;
import java.util.Random;
import java.util.TreeMap;
import java.util.function.Supplier;

/** Runs of random calls, the same ones every time, on the class and on the plain model; all answers must agree. */
public final class AgainstModelTest {
    private static final int CALLS = 512;
    private static final String[] ASKS = {"<", ">", "=", "to", "in", "missing"};
    private static final String SIGNS = "#0#1#2|&!()<>= -5abto m9\u00e9A\t;";

    private final Random random;
    private final ColumnVault vault = new ColumnVault();
    private final PlainModel model = new PlainModel();
    private final Map<String, int[]> answers;
    private final StringBuilder told = new StringBuilder();
    private final int busyTables;
    private final int texts;
    private int calls = 0;

    private AgainstModelTest(long seed, Map<String, int[]> answers) {
        random = new Random(seed);
        this.answers = answers;
        busyTables = 1 + random.nextInt(3);
        texts = 1 + random.nextInt(6);
    }

    public static void main(String[] args) {
        int runs = args.length > 0 ? Integer.parseInt(args[0]) : 600;
        Map<String, int[]> answers = new TreeMap<>();
        for (int seed = 0; seed < runs; seed++) {
            AgainstModelTest run = new AgainstModelTest(seed, answers);
            if (!run.agrees()) {
                System.out.println("seed " + seed + "\n" + run.told);
                System.exit(1);
            }
        }
        boolean isThin = false;
        for (Map.Entry<String, int[]> entry : answers.entrySet()) {
            int[] counts = entry.getValue();
            if (counts[0] < 20 || counts[1] < 20 && !entry.getKey().matches("version|clearText")) {
                System.out.println("too few calls of " + entry.getKey() + ": " + counts[0] + " answered, " + counts[1] + " threw");
                isThin = true;
            }
        }
        if (isThin && runs >= 600) {
            System.exit(1);
        }
    }

    private boolean agrees() {
        int columns = random.nextInt(5);
        for (int table = 0; table < 3; table++) {
            int start = table;
            for (int i = 0; i < columns; i++) {
                int kind = (table + i) % 3 == 1 && random.nextBoolean() ? 1 : i % 2;
                if (!same("addColumn", start + ", " + kind, () -> vault.addColumn(start, kind), () -> model.addColumn(start, kind))) {
                    return false;
                }
            }
        }
        while (calls < CALLS) {
            if (!call(random.nextInt(64))) {
                return false;
            }
        }
        return true;
    }

    /** Makes a call, unless the run has had as many as the document allows. */
    private boolean same(String name, String with, Supplier<Object> mine, Supplier<Object> due) {
        if (calls >= CALLS) {
            return true;
        }
        calls++;
        String got = answer(mine);
        String want = answer(due);
        told.append(name).append('(').append(with).append(") -> ").append(got).append('\n');
        int[] counts = answers.computeIfAbsent(name, key -> new int[2]);
        counts[want.startsWith("throws") ? 1 : 0]++;
        if (!got.equals(want)) {
            told.append("due is ").append(want);
        }
        return got.equals(want);
    }

    private static String answer(Supplier<Object> call) {
        try {
            return String.valueOf(call.get());
        } catch (IndexOutOfBoundsException e) {
            return "throws IndexOutOfBoundsException" + (e instanceof ArrayIndexOutOfBoundsException ? " of an array" : "");
        } catch (NoSuchElementException | IllegalArgumentException | IllegalStateException e) {
            return "throws " + e.getClass().getSimpleName();
        } catch (RuntimeException e) {
            e.printStackTrace(System.out);
            return "throws by itself " + e;
        }
    }

    private int table() {
        return random.nextInt(40) == 0 ? random.nextInt(9) - 3 : random.nextInt(busyTables);
    }

    private int small(int most) {
        return random.nextInt(30) == 0 ? random.nextBoolean() ? -1 : most : random.nextInt(most);
    }

    private int row(int table) {
        int rows = table >= 0 && table < 3 ? model.size(table, 0) : 0;
        return random.nextInt(30) == 0 ? (random.nextBoolean() ? -1 : rows) : random.nextInt(Math.max(rows, 1));
    }

    private int column(int table) {
        int columns = table >= 0 && table < 3 ? model.size(table, 1) : 0;
        return random.nextInt(30) == 0 ? (random.nextBoolean() ? -1 : columns) : random.nextInt(Math.max(columns, 1));
    }

    private long value(int table, int column) {
        boolean isThere = table >= 0 && table < 3 && column >= 0 && column < model.size(table, 1);
        boolean isText = (isThere && model.kind(table, column) == 1) != (random.nextInt(25) == 0);
        switch (random.nextInt(12)) {
            case 0:
                return ColumnVault.MISSING;
            case 1:
                return new long[] {1000000, -1000000, 1000001, -1000001, 0, 97L << 56, 0x7a7a7a7a7a7a7aL, 0x617a7a7a7a7a7a7aL,
                    0x6100, 0x610061, 0x7b, 0x60, Long.MIN_VALUE, Long.MAX_VALUE, -1, ColumnVault.MISSING + 1}[random.nextInt(16)];
            default:
                return isText ? bytes(word()) : random.nextInt(9) - 4;
        }
    }

    private static long bytes(String letters) {
        long value = 0;
        for (char letter : letters.toCharArray()) {
            value = value << 8 | letter;
        }
        return value;
    }

    private String word() {
        StringBuilder word = new StringBuilder();
        int length = random.nextInt(8) == 0 ? 7 : 1 + random.nextInt(2);
        for (int i = 0; i < length; i++) {
            word.append((char) (random.nextInt(9) == 0 ? 'z' : 'a' + random.nextInt(texts)));
        }
        return word.toString();
    }

    private boolean call(int which) {
        int t = table();
        int o = table();
        int c = column(t);
        int d = column(o);
        int r = row(t);
        long v = value(t, c);
        long w = value(t, c);
        int what = small(6);
        boolean flag = random.nextBoolean();
        boolean other = random.nextBoolean();
        switch (which) {
            case 0: {
                int kind = small(2);
                return random.nextInt(6) > 0 || same("addColumn", t + ", " + kind, () -> vault.addColumn(t, kind), () -> model.addColumn(t, kind));
            }
            case 1: case 2:
                return same("addRow", "" + t, () -> vault.addRow(t), () -> model.addRow(t));
            case 3: {
                int first = random.nextInt(5) == 0 ? new int[] {1000000, -1000000, 1000001, -1000001, 999990}[random.nextInt(5)] : random.nextInt(13) - 6;
                int step = random.nextInt(5) == 0 ? new int[] {1000, -1000, 1001, -1001, 10}[random.nextInt(5)] : random.nextInt(5) - 2;
                int many = random.nextInt(6) == 0 ? new int[] {0, 40, 41, -1, 39}[random.nextInt(5)] : 1 + random.nextInt(12);
                return same("fill", t + ", " + c + ", " + first + ", " + step + ", " + many,
                    () -> vault.fill(t, c, first, step, many), () -> model.fill(t, c, first, step, many));
            }
            case 4: case 5: case 6: case 7: case 8: case 9: case 10: case 11: case 12: case 13:
                return same("set", t + ", " + r + ", " + c + ", " + v, () -> vault.set(t, r, c, v), () -> model.set(t, r, c, v));
            case 14:
                return random.nextInt(2) > 0 || same("remove", t + ", " + r, () -> vault.remove(t, r), () -> model.remove(t, r));
            case 15:
                return same("get", t + ", " + r + ", " + c, () -> vault.get(t, r, c), () -> model.get(t, r, c));
            case 16: {
                int size = small(4);
                return same("size", t + ", " + size, () -> vault.size(t, size), () -> model.size(t, size));
            }
            case 17:
                return same("kind", t + ", " + c, () -> vault.kind(t, c), () -> model.kind(t, c));
            case 18:
                return same("version", "", vault::version, model::version);
            case 19: {
                int version = model.version() + 2 - random.nextInt(17);
                return random.nextInt(3) > 0 || same("back", "" + version, () -> vault.back(version), () -> model.back(version));
            }
            case 20: case 21: case 22:
                return same("sort", t + ", " + c + ", " + flag + ", " + other, () -> vault.sort(t, c, flag, other), () -> model.sort(t, c, flag, other));
            case 23: case 24:
                return same("rowAt", t + ", " + r, () -> vault.rowAt(t, r), () -> model.rowAt(t, r));
            case 25:
                return same("placeOf", t + ", " + r, () -> vault.placeOf(t, r), () -> model.placeOf(t, r));
            case 26:
                return same("isChosen", t + ", " + r, () -> vault.isChosen(t, r), () -> model.isChosen(t, r));
            case 27: case 28: {
                int how = small(4);
                return same("choose", t + ", " + how, () -> vault.choose(t, how), () -> model.choose(t, how));
            }
            case 29:
                return same("turnChoice", "" + t, () -> vault.turnChoice(t), () -> model.turnChoice(t));
            case 30: case 31:
                return same("count", "" + t, () -> vault.count(t), () -> model.count(t));
            case 32: case 33:
                return same("reads", t + ", " + flag, () -> vault.reads(t, flag), () -> model.reads(t, flag));
            case 34: case 35:
                return same("errorKind", "" + t, () -> vault.errorKind(t), () -> model.errorKind(t))
                    && same("errorPlace", "" + t, () -> vault.errorPlace(t), () -> model.errorPlace(t));
            case 36: case 37: case 38: case 39: case 40:
                return typeFilter(Math.max(Math.min(t, 2), 0))
                    && same("errorKind", "" + t, () -> vault.errorKind(t), () -> model.errorKind(t))
                    && same("errorPlace", "" + t, () -> vault.errorPlace(t), () -> model.errorPlace(t))
                    && same("count", "" + t, () -> vault.count(t), () -> model.count(t))
                    && same("reads", t + ", false", () -> vault.reads(t, false), () -> model.reads(t, false))
                    && same("reads", t + ", true", () -> vault.reads(t, true), () -> model.reads(t, true));
            case 41: {
                long bytes = random.nextBoolean() ? random.nextLong() : bytes(" & #0");
                return random.nextInt(8) > 0 || same("type", "" + bytes, () -> vault.type(bytes), () -> model.type(bytes));
            }
            case 42:
                return random.nextInt(4) > 0 || same("clearText", "", vault::clearText, model::clearText);
            case 43: {
                int example = small(3);
                return same("example", "" + example, () -> vault.example(example), () -> model.example(example));
            }
            case 44: case 45: {
                int how = small(3);
                return same("join", t + ", " + c + ", " + o + ", " + d + ", " + how,
                    () -> vault.join(t, c, o, d, how), () -> model.join(t, c, o, d, how)) && allPairs();
            }
            case 46: {
                int pair = small(30);
                return same("pairAt", pair + ", " + flag, () -> vault.pairAt(pair, flag), () -> model.pairAt(pair, flag));
            }
            case 47:
                return same("joinErrors", t + ", " + c + ", " + o + ", " + d, () -> vault.joinErrors(t, c, o, d), () -> model.joinErrors(t, c, o, d));
            case 48: case 49:
                return same("group", t + ", " + c, () -> vault.group(t, c), () -> model.group(t, c));
            case 50: {
                int group = small(6);
                int about = small(4);
                return same("groupAt", group + ", " + about, () -> vault.groupAt(group, about), () -> model.groupAt(group, about));
            }
            case 51: case 52: {
                int group = small(6);
                return same("groupTotal", group + ", " + c + ", " + what, () -> vault.groupTotal(group, c, what), () -> model.groupTotal(group, c, what));
            }
            case 53: case 54:
                return same("total", t + ", " + c + ", " + what, () -> vault.total(t, c, what), () -> model.total(t, c, what));
            case 55:
                return same("running", t + ", " + c + ", " + r, () -> vault.running(t, c, r), () -> model.running(t, c, r));
            case 56: {
                int by = column(t);
                return same("rank", t + ", " + by + ", " + c + ", " + r, () -> vault.rank(t, by, c, r), () -> model.rank(t, by, c, r));
            }
            case 57:
                return same("previous", t + ", " + c + ", " + r, () -> vault.previous(t, c, r), () -> model.previous(t, c, r));
            case 58:
                return same("between", t + ", " + c + ", " + v + ", " + w, () -> vault.between(t, c, v, w), () -> model.between(t, c, v, w));
            case 59:
                return same("nearest", t + ", " + c + ", " + v + ", " + flag, () -> vault.nearest(t, c, v, flag), () -> model.nearest(t, c, v, flag));
            case 60: {
                int compared = small(4);
                return same("alike", t + ", " + o + ", " + compared, () -> vault.alike(t, o, compared), () -> model.alike(t, o, compared));
            }
            case 61:
                return same("errors", "" + t, () -> vault.errors(t), () -> model.errors(t));
            case 62:
                return same("meanOf", t + ", " + c, () -> vault.meanOf(t, c), () -> model.meanOf(t, c));
            default:
                return same("chosenShare", "" + t, () -> vault.chosenShare(t), () -> model.chosenShare(t));
        }
    }

    private boolean allPairs() {
        boolean isSame = true;
        for (int i = 0; i < 5 && isSame; i++) {
            int pair = random.nextInt(6 + i * i);
            boolean isRight = random.nextBoolean();
            isSame = same("pairAt", pair + ", " + isRight, () -> vault.pairAt(pair, isRight), () -> model.pairAt(pair, isRight));
        }
        return isSame;
    }

    private boolean typeFilter(int table) {
        StringBuilder text = new StringBuilder();
        addFilter(text, table, random.nextInt(4));
        for (int spoil = random.nextInt(5) < 2 ? 1 + random.nextInt(2) : 0; spoil > 0 && text.length() > 0; spoil--) {
            int at = random.nextInt(text.length());
            switch (random.nextInt(4)) {
                case 0:
                    text.deleteCharAt(at);
                    break;
                case 1:
                    text.setCharAt(at, SIGNS.charAt(random.nextInt(SIGNS.length())));
                    break;
                case 2:
                    text.insert(at, SIGNS.charAt(random.nextInt(SIGNS.length())));
                    break;
                default:
                    text.setLength(at);
            }
        }
        boolean isSame = same("clearText", "", vault::clearText, model::clearText);
        for (int at = 0; at < text.length() && at < 168 && isSame; at += 8) {
            long bytes = bytes(text.substring(at, Math.min(at + 8, text.length())));
            isSame = same("type", "" + bytes, () -> vault.type(bytes), () -> model.type(bytes));
        }
        if (random.nextInt(20) == 0) {
            told.append("text: ").append(text).append('\n');
        }
        return isSame;
    }

    private void addFilter(StringBuilder text, int table, int depth) {
        for (int part = random.nextInt(3); part >= 0; part--) {
            for (int piece = random.nextInt(3); piece >= 0; piece--) {
                addPiece(text, table, depth);
                text.append(piece > 0 ? blank() + "&" + blank() : "");
            }
            text.append(part > 0 ? blank() + "|" + blank() : "");
        }
    }

    private void addPiece(StringBuilder text, int table, int depth) {
        for (int turns = random.nextInt(3) == 0 ? random.nextInt(5) : 0; turns > 0; turns--) {
            text.append("!").append(random.nextInt(4) == 0 ? " " : "");
        }
        int brackets = random.nextInt(40) == 0 ? random.nextInt(8) : random.nextInt(8) < depth ? 1 : 0;
        for (int i = 0; i < brackets; i++) {
            text.append("(").append(blank());
        }
        if (brackets > 0) {
            addFilter(text, table, depth - 1);
        } else {
            addTest(text, table);
        }
        for (int i = 0; i < brackets; i++) {
            text.append(blank()).append(")");
        }
    }

    private void addTest(StringBuilder text, int table) {
        int columns = model.size(table, 1);
        int column = random.nextInt(30) == 0 ? random.nextInt(10) : random.nextInt(Math.max(columns, 1));
        boolean isText = (column < columns && model.kind(table, column) == 1) != (random.nextInt(25) == 0);
        String asks = ASKS[random.nextInt(ASKS.length)];
        text.append('#').append(column).append(blank()).append(asks).append(asks.length() > 1 ? " " : blank());
        int values = asks.equals("missing") ? 0 : asks.equals("to") ? 2 : asks.equals("in") ? 1 + random.nextInt(random.nextInt(9) == 0 ? 8 : 5) : 1;
        for (int i = 0; i < values; i++) {
            text.append(i > 0 ? " " : "").append(isText ? textValue() : numberValue());
        }
    }

    private String textValue() {
        return random.nextInt(12) == 0 ? new String[] {"to", "in", "missing", "missings", "abcdefgh", "zzzzzzz"}[random.nextInt(6)] : word();
    }

    private String numberValue() {
        return random.nextInt(15) == 0
            ? new String[] {"-0", "007", "1000000", "-1000000", "1000001", "-1000001", "99999999999999999999999", "0000000000000000000003"}[random.nextInt(8)]
            : "" + (random.nextInt(9) - 4);
    }

    private String blank() {
        return random.nextInt(3) == 0 ? " " : "";
    }
}
