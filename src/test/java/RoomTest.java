import com.sun.management.ThreadMXBean;
import java.lang.management.ManagementFactory;

/**
 * All calls of one run live in one room of some 600,000 objects and 7.3 million fields and elements. An object takes
 * at least 16 bytes here and a field or an element seldom less than 4, so a run of 8 megabytes keeps to both.
 */
public final class RoomTest {
    private static final int CALLS = 512;
    private static final long MOST_BYTES = 8_000_000;
    private static final ThreadMXBean THREADS = (ThreadMXBean) ManagementFactory.getThreadMXBean();

    private interface Call {
        void run(ColumnVault vault);
    }

    public static void main(String[] args) {
        String[] names = {"filter with brackets", "filter with tests", "joinErrors", "errors", "change", "total", "join", "group", "alike"};
        Call[] calls = {
            vault -> vault.reads(0, true), vault -> vault.reads(1, true), vault -> vault.joinErrors(0, 0, 0, 1), vault -> vault.errors(0),
            vault -> vault.sort(0, 0, vault.version() % 2 == 0, false), vault -> vault.total(0, 0, 4), vault -> vault.join(0, 0, 0, 1, 0),
            vault -> vault.group(0, 0), vault -> vault.alike(0, 0, 1),
        };
        boolean isTooMuch = false;
        for (int i = 0; i < calls.length; i++) {
            bytesOf(calls[i], i);
            long bytes = bytesOf(calls[i], i);
            isTooMuch |= bytes > MOST_BYTES;
            System.out.println(names[i] + ": " + bytes + " bytes in " + CALLS + " calls");
        }
        if (isTooMuch) {
            System.exit(1);
        }
    }

    private static long bytesOf(Call call, int which) {
        long before = THREADS.getThreadAllocatedBytes(Thread.currentThread().getId());
        ColumnVault vault = full(which == 1 ? "!#0=1|" : "((((((#0=1))))))|");
        for (int i = 0; i < CALLS; i++) {
            call.run(vault);
        }
        return THREADS.getThreadAllocatedBytes(Thread.currentThread().getId()) - before;
    }

    /** Two tables with as many rows and columns as can be, and a text of tests as long as can be. */
    private static ColumnVault full(String test) {
        ColumnVault vault = new ColumnVault();
        for (int table = 0; table < 2; table++) {
            for (int column = 0; column < 4; column++) {
                vault.addColumn(table, 0);
            }
            vault.fill(table, 1, 40, -1, 40);
            for (int row = 0; row < 40; row++) {
                vault.set(table, row, 0, row);
            }
        }
        StringBuilder text = new StringBuilder();
        while (text.length() + test.length() - 1 <= 160) {
            text.append(test);
        }
        text.setLength(text.length() - 1);
        for (int i = 0; i < text.length(); i++) {
            vault.type(text.charAt(i));
        }
        if (vault.errorKind(0) != 0) {
            System.out.println("the text has an error at " + vault.errorPlace(0));
            System.exit(1);
        }
        return vault;
    }
}
