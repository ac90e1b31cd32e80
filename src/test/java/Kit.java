import java.lang.reflect.InvocationTargetException;
import java.lang.reflect.Method;
import java.util.NoSuchElementException;

/** What the tests by hand are told with; a wrong answer is printed with its test and its line. */
abstract class Kit {
    static final long MISSING = ColumnVault.MISSING;
    static final int NONE = ColumnVault.NONE;
    static final int NUMBER = ColumnVault.NUMBER;
    static final int TEXT = ColumnVault.TEXT;
    private static String test = "";
    private static int wrong = 0;

    interface Call {
        void run();
    }

    interface CallWith {
        void run(int number);
    }

    static void begin(String name) {
        test = name;
    }

    static void end(int tests) {
        System.out.println(tests + " tests, " + wrong + " wrong answers");
        if (wrong != 0) {
            System.exit(1);
        }
    }

    /** Runs each test of a sentence in a class of tests. */
    static void runSentences(Class<?> tests) throws IllegalAccessException {
        int many = 0;
        for (Method method : tests.getDeclaredMethods()) {
            Sentence sentence = method.getAnnotation(Sentence.class);
            if (sentence != null) {
                begin(method.getName() + " (promise " + sentence.promise() + ": " + sentence.says() + ")");
                method.setAccessible(true);
                many++;
                try {
                    method.invoke(null);
                } catch (InvocationTargetException e) {
                    wrong++;
                    System.out.println(test + " ended with " + e.getCause());
                    e.getCause().printStackTrace(System.out);
                }
            }
        }
        end(many);
    }

    static void is(Object due, Object got) {
        if (!due.equals(got)) {
            wrong++;
            System.out.println(test + ", " + line() + ": got " + got + ", due is " + due);
        }
    }

    /** The line of the test itself: the first one that is not of this file. */
    private static String line() {
        return StackWalker.getInstance().walk(frames ->
            frames.filter(frame -> !"Kit.java".equals(frame.getFileName())).findFirst()
                .map(frame -> frame.getFileName() + ":" + frame.getLineNumber()).orElse("?"));
    }

    // ---- calls that are refused

    private static void refused(Class<?> due, ColumnVault vault, Call call) {
        int before = vault.version();
        Object got = "no exception";
        try {
            call.run();
        } catch (RuntimeException e) {
            got = e.getClass();
        }
        is(due, got);
        is(before, vault.version());
    }

    static void index(ColumnVault vault, Call call) {
        refused(IndexOutOfBoundsException.class, vault, call);
    }

    static void argument(ColumnVault vault, Call call) {
        refused(IllegalArgumentException.class, vault, call);
    }

    static void state(ColumnVault vault, Call call) {
        refused(IllegalStateException.class, vault, call);
    }

    static void element(ColumnVault vault, Call call) {
        refused(NoSuchElementException.class, vault, call);
    }

    /** Things numbered from 0 to many - 1: a number beside them is one of nothing. */
    static void noneBeside(int many, ColumnVault vault, CallWith call) {
        for (int number : new int[] {-1, many, many + 1, -many - 1, Integer.MIN_VALUE, Integer.MAX_VALUE}) {
            index(vault, () -> call.run(number));
        }
    }

    /** A parameter that is from least to most: what is beside them is out of range. */
    static void outOfRange(int least, int most, ColumnVault vault, CallWith call) {
        for (int number : new int[] {least - 1, most + 1, Integer.MIN_VALUE, Integer.MAX_VALUE}) {
            argument(vault, () -> call.run(number));
        }
    }

    // ---- stores

    static long word(String letters) {
        long value = 0;
        for (char letter : letters.toCharArray()) {
            value = value * 256 + letter;
        }
        return value;
    }

    static Object[] row(Object... values) {
        return values;
    }

    /** A table 0 with a column of numbers and one of texts; null stands for what is missing. */
    static ColumnVault vault(Object[]... rows) {
        ColumnVault vault = new ColumnVault();
        vault.addColumn(0, NUMBER);
        vault.addColumn(0, TEXT);
        for (Object[] row : rows) {
            addRow(vault, 0, row);
        }
        return vault;
    }

    static void addRow(ColumnVault vault, int table, Object... values) {
        int row = vault.addRow(table);
        for (int column = 0; column < values.length; column++) {
            if (values[column] != null) {
                vault.set(table, row, column, values[column] instanceof Integer number ? number : word(values[column].toString()));
            }
        }
    }

    static ColumnVault fiveRows() {
        return vault(row(3, "b"), row(2, null), row(1, "ab"), row(0, null), row(-1, "a"));
    }

    /** A table 0 with one column, of the numbers 0 to many - 1. */
    static ColumnVault numbers(int many) {
        ColumnVault vault = new ColumnVault();
        vault.addColumn(0, NUMBER);
        vault.fill(0, 0, 0, 1, many);
        return vault;
    }

    // ---- what a store tells

    static String order(ColumnVault vault, int table) {
        StringBuilder order = new StringBuilder();
        for (int place = 0; place < vault.size(table, 0); place++) {
            order.append(place > 0 ? " " : "").append(vault.rowAt(table, place));
            is(place, vault.placeOf(table, vault.rowAt(table, place)));
        }
        return order.toString();
    }

    static void order(String due, ColumnVault vault) {
        is(due, order(vault, 0));
    }

    static String chosen(ColumnVault vault) {
        return chosen(vault, 0);
    }

    static String chosen(ColumnVault vault, int table) {
        StringBuilder rows = new StringBuilder();
        for (int row = 0; row < vault.size(table, 0); row++) {
            rows.append(vault.isChosen(table, row) ? " " + row : "");
        }
        return rows.toString().trim();
    }

    static void pairs(String due, ColumnVault vault, int many) {
        StringBuilder got = new StringBuilder();
        for (int pair = 0; pair < many; pair++) {
            got.append(pair > 0 ? " " : "").append(vault.pairAt(pair, false)).append("-").append(vault.pairAt(pair, true));
        }
        is(due, got.toString());
        index(vault, () -> vault.pairAt(many, false));
    }

    /** The groups: of each its value, how many rows it had, the first one and the last one. */
    static void groups(String due, ColumnVault vault, int many) {
        StringBuilder got = new StringBuilder();
        for (int group = 0; group < many; group++) {
            got.append(group > 0 ? " | " : "").append(told(vault.groupAt(group, 0)));
            for (int what = 1; what <= 3; what++) {
                got.append(' ').append(vault.groupAt(group, what));
            }
        }
        is(due, got.toString());
        index(vault, () -> vault.groupAt(many, 0));
    }

    private static String told(long value) {
        return value == MISSING ? "missing" : String.valueOf(value);
    }

    static String column(ColumnVault vault, int table, int column) {
        StringBuilder values = new StringBuilder();
        for (int row = 0; row < vault.size(table, 0); row++) {
            values.append(row > 0 ? " " : "").append(told(vault.get(table, row, column)));
        }
        return values.toString();
    }

    // ---- filters

    static void say(ColumnVault vault, String text) {
        vault.clearText();
        for (int at = 0; at < text.length(); at += 8) {
            vault.type(word(text.substring(at, Math.min(at + 8, text.length()))));
        }
    }

    static void choose(ColumnVault vault, String filter) {
        say(vault, filter);
        vault.choose(0, ColumnVault.SET);
    }

    /** The rows for which a filter holds. */
    static void rows(String due, ColumnVault vault, String filter) {
        say(vault, filter);
        is(0, vault.errorKind(0));
        is(NONE, vault.errorPlace(0));
        is(due.replaceAll("[^ ]+", "x").replace(" ", "").length(), vault.choose(0, ColumnVault.SET));
        is(due, chosen(vault));
        is(vault.count(0), vault.size(0, 2));
    }

    static void error(int kind, int place, ColumnVault vault, String filter) {
        say(vault, filter);
        is(kind, vault.errorKind(0));
        is(place, vault.errorPlace(0));
        state(vault, () -> vault.count(0));
        state(vault, () -> vault.reads(0, false));
        state(vault, () -> vault.choose(0, ColumnVault.SET));
    }

    static void right(ColumnVault vault, String filter) {
        say(vault, filter);
        is(0, vault.errorKind(0));
        is(NONE, vault.errorPlace(0));
    }

    static void reads(int asTold, int byCounts, ColumnVault vault, String filter) {
        say(vault, filter);
        is(asTold, vault.reads(0, false));
        is(byCounts, vault.reads(0, true));
    }
}
