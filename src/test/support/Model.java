import java.util.ArrayList;
import java.util.List;

/** The document once more, word by word and without care for speed. */
final class Model {
    private final boolean[][] edge = new boolean[8][8];
    private int n = 0;

    int grow() {
        if (n == 8) {
            throw new IllegalStateException();
        }
        n++;
        return n - 1;
    }

    void shrink() {
        if (n == 0) {
            throw new IllegalStateException();
        }
        n--;
        for (int v = 0; v < 8; v++) {
            edge[v][n] = false;
            edge[n][v] = false;
        }
    }

    boolean join(int u, int v) {
        return !set(u, v, true);
    }

    boolean part(int u, int v) {
        return set(u, v, false);
    }

    private boolean set(int u, int v, boolean now) {
        vertex(u);
        vertex(v);
        if (u == v) {
            throw new IllegalArgumentException();
        }
        boolean was = edge[u][v];
        edge[u][v] = now;
        edge[v][u] = now;
        return was;
    }

    boolean adjacent(int u, int v) {
        vertex(u);
        vertex(v);
        return edge[u][v];
    }

    int vertices() {
        return n;
    }

    int edges() {
        return Integer.bitCount(code());
    }

    int leader(int v) {
        vertex(v);
        boolean[] seen = new boolean[8];
        visit(v, seen);
        int least = 0;
        while (!seen[least]) {
            least++;
        }
        return least;
    }

    private void visit(int v, boolean[] seen) {
        seen[v] = true;
        for (int w = 0; w < n; w++) {
            if (edge[v][w] && !seen[w]) {
                visit(w, seen);
            }
        }
    }

    boolean isLine() {
        return Namings.of(n).isLine(code());
    }

    int ends() {
        return endNumbers(row()).size();
    }

    int low(int v) {
        vertex(v);
        return Namings.low(row(), v);
    }

    int high(int v) {
        vertex(v);
        return Namings.high(row(), v);
    }

    int spoiler() {
        if (isLine()) {
            throw new IllegalStateException();
        }
        List<Integer> left = members((1 << n) - 1);
        for (int v = 0; v < n; v++) {
            List<Integer> rest = new ArrayList<>(left);
            rest.remove(Integer.valueOf(v));
            if (!isLineSet(rest)) {
                left = rest;
            }
        }
        return sum(left);
    }

    int apart() {
        return greatest(false).get(0);
    }

    int close() {
        return greatest(true).get(0);
    }

    int loose() {
        return sum(looseEnds(row()));
    }

    int barrier() {
        long row = row();
        List<Integer> loose = looseEnds(row);
        List<Integer> barrier = new ArrayList<>();
        for (int end : endNumbers(row)) {
            boolean beside = false;
            for (int v = 0; v < n; v++) {
                int low = Namings.low(row, v);
                int high = Namings.high(row, v);
                beside |= low == end && loose.contains(high) || high == end && loose.contains(low);
            }
            if (beside && !loose.contains(end)) {
                barrier.add(end);
            }
        }
        return sum(barrier);
    }

    private List<Integer> looseEnds(long row) {
        List<Integer> loose = new ArrayList<>();
        for (int end : endNumbers(row)) {
            for (int set : greatest(false)) {
                boolean missed = true;
                for (int v : members(set)) {
                    missed &= Namings.low(row, v) != end && Namings.high(row, v) != end;
                }
                if (missed && !loose.contains(end)) {
                    loose.add(end);
                }
            }
        }
        return loose;
    }

    private List<Integer> endNumbers(long row) {
        List<Integer> ends = new ArrayList<>();
        for (int end = 0; end < 16; end++) {
            for (int v = 0; v < n; v++) {
                if (!ends.contains(end) && (Namings.low(row, v) == end || Namings.high(row, v) == end)) {
                    ends.add(end);
                }
            }
        }
        return ends;
    }

    /** All sets of the greatest size whose members are all adjacent or all not, the least first. */
    private List<Integer> greatest(boolean adjacent) {
        List<Integer> found = new ArrayList<>();
        for (int size = n; found.isEmpty(); size--) {
            for (int set = 0; set < 1 << n; set++) {
                if (members(set).size() == size && allAre(adjacent, members(set))) {
                    found.add(set);
                }
            }
        }
        return found;
    }

    private boolean allAre(boolean adjacent, List<Integer> set) {
        for (int u : set) {
            for (int v : set) {
                if (u != v && edge[u][v] != adjacent) {
                    return false;
                }
            }
        }
        return true;
    }

    private boolean isLineSet(List<Integer> set) {
        int code = 0;
        for (int i = 0; i < set.size(); i++) {
            for (int k = 0; k < i; k++) {
                code |= edge[set.get(k)][set.get(i)] ? Namings.bit(k, i) : 0;
            }
        }
        return Namings.of(set.size()).isLine(code);
    }

    private static List<Integer> members(int set) {
        List<Integer> found = new ArrayList<>();
        for (int v = 0; v < 16; v++) {
            if ((set >> v & 1) == 1) {
                found.add(v);
            }
        }
        return found;
    }

    private static int sum(List<Integer> set) {
        int sum = 0;
        for (int member : set) {
            sum += 1 << member;
        }
        return sum;
    }

    int code() {
        int code = 0;
        for (int v = 0; v < n; v++) {
            for (int u = 0; u < v; u++) {
                code |= edge[u][v] ? Namings.bit(u, v) : 0;
            }
        }
        return code;
    }

    private long row() {
        if (!isLine()) {
            throw new IllegalStateException();
        }
        return Namings.of(n).rows().get(code());
    }

    private void vertex(int v) {
        if (v < 0 || v >= n) {
            throw new IndexOutOfBoundsException();
        }
    }
}
