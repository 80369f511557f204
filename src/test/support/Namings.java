import java.util.HashMap;
import java.util.Map;

/**
 * The naming of every line graph on n vertices, found the other way round: all rows of pairs are
 * gone through from the least one up, and the first row that gives a graph is that graph's naming.
 * A graph is its code: one bit for each two vertices u < v, in the order (0,1), (0,2), (1,2), ..
 * A row is a long with four bits for each number, the first number lowest.
 */
final class Namings {
    private static final Namings[] MADE = new Namings[9];

    private final int n;
    private final boolean anyNumbers;
    private final int[] lows;
    private final int[] highs;
    private final Map<Integer, Long> rows = new HashMap<>();

    /** With any numbers, rows are not held to take the next unused number as a new one. */
    private Namings(int n, boolean anyNumbers) {
        this.n = n;
        this.anyNumbers = anyNumbers;
        lows = new int[n];
        highs = new int[n];
        goThroughRows(0, 0, 0);
    }

    static Namings of(int n) {
        if (MADE[n] == null) {
            MADE[n] = new Namings(n, false);
        }
        return MADE[n];
    }

    static Namings withAnyNumbers(int n) {
        return new Namings(n, true);
    }

    Map<Integer, Long> rows() {
        return rows;
    }

    boolean isLine(int code) {
        return rows.containsKey(code);
    }

    static int low(long row, int v) {
        return (int) (row >> 8 * v & 15);
    }

    static int high(long row, int v) {
        return (int) (row >> 8 * v + 4 & 15);
    }

    static int bit(int u, int v) {
        int less = Math.min(u, v);
        int more = Math.max(u, v);
        return 1 << more * (more - 1) / 2 + less;
    }

    private void goThroughRows(int v, int used, int code) {
        if (v == n) {
            rows.putIfAbsent(code, row());
            return;
        }
        int end = anyNumbers ? 2 * n : used + 2;
        for (int low = 0; low < end; low++) {
            for (int high = low + 1; high < end; high++) {
                boolean skips = low > used || high > used && low < used;
                if (!anyNumbers && skips || taken(v, low, high)) {
                    continue;
                }
                lows[v] = low;
                highs[v] = high;
                goThroughRows(v + 1, Math.max(used, high + 1), code | edgesTo(v));
            }
        }
    }

    private boolean taken(int v, int low, int high) {
        for (int u = 0; u < v; u++) {
            if (lows[u] == low && highs[u] == high) {
                return true;
            }
        }
        return false;
    }

    private int edgesTo(int v) {
        int found = 0;
        for (int u = 0; u < v; u++) {
            if (lows[u] == lows[v] || lows[u] == highs[v] || highs[u] == lows[v] || highs[u] == highs[v]) {
                found |= bit(u, v);
            }
        }
        return found;
    }

    private long row() {
        long row = 0;
        for (int v = 0; v < n; v++) {
            row |= (long) lows[v] << 8 * v | (long) highs[v] << 8 * v + 4;
        }
        return row;
    }
}
