/**
 * A graph of at most eight vertices that may be the line graph of another one.
 * Sets of vertices and of ends are ints: the sum of the powers 2^number of their members.
 */
public final class PairedEnds {
    private static final int MOST_VERTICES = 8;
    private static final int MOST_ENDS = 2 * MOST_VERTICES;

    /** For each vertex the set of those adjacent to it. */
    private final int[] neighbours = new int[MOST_VERTICES];
    private int count;

    // What follows is written anew by every search for a naming and says nothing between two calls:
    // it stands here only so that no call has to make rows of its own.
    private final int[] lows = new int[MOST_VERTICES];
    private final int[] highs = new int[MOST_VERTICES];
    /** For each number the set of the vertices named so far whose pair has it. */
    private final int[] holders = new int[MOST_ENDS];
    /** The numbers in use are those below this one. */
    private int used;

    public PairedEnds() {
        count = 0;
        used = 0;
    }

    public int grow() throws IllegalStateException {
        if (count >= MOST_VERTICES) {
            throw new IllegalStateException("no room for one more vertex");
        }
        neighbours[count] = 0;
        count++;
        return count - 1;
    }

    public void shrink() throws IllegalStateException {
        if (count <= 0) {
            throw new IllegalStateException("no vertex to take away");
        }
        count--;
        for (int v = 0; v < count; v++) {
            neighbours[v] &= ~only(count);
        }
    }

    public boolean join(int u, int v) throws IndexOutOfBoundsException, IllegalArgumentException {
        checkTwo(u, v);
        boolean wasNone = !has(neighbours[u], v);
        neighbours[u] |= only(v);
        neighbours[v] |= only(u);
        return wasNone;
    }

    public boolean part(int u, int v) throws IndexOutOfBoundsException, IllegalArgumentException {
        checkTwo(u, v);
        boolean wasOne = has(neighbours[u], v);
        neighbours[u] &= ~only(v);
        neighbours[v] &= ~only(u);
        return wasOne;
    }

    public boolean adjacent(int u, int v) throws IndexOutOfBoundsException {
        checkVertex(u);
        checkVertex(v);
        return has(neighbours[u], v);
    }

    public int vertices() {
        return count;
    }

    public int edges() {
        int sum = 0;
        for (int v = 0; v < count; v++) {
            sum += Integer.bitCount(neighbours[v]);
        }
        return sum / 2;
    }

    public int leader(int v) throws IndexOutOfBoundsException {
        checkVertex(v);
        int reached = only(v);
        // A way without detours has fewer edges than there are vertices.
        for (int step = 1; step < count; step++) {
            reached |= neighboursOf(reached);
        }
        return Integer.numberOfTrailingZeros(reached);
    }

    public boolean isLine() {
        return findNaming(all());
    }

    public int ends() throws IllegalStateException {
        nameAll();
        return used;
    }

    public int low(int v) throws IndexOutOfBoundsException, IllegalStateException {
        checkVertex(v);
        nameAll();
        return lows[v];
    }

    public int high(int v) throws IndexOutOfBoundsException, IllegalStateException {
        checkVertex(v);
        nameAll();
        return highs[v];
    }

    public int spoiler() throws IllegalStateException {
        int left = all();
        if (findNaming(left)) {
            throw new IllegalStateException("it is a line graph");
        }
        for (int v = 0; v < count; v++) {
            int rest = left & ~only(v);
            if (!findNaming(rest)) {
                left = rest;
            }
        }
        return left;
    }

    public int apart() {
        int best = 0;
        // From the least set up, so that of equal sizes the first one stays.
        for (int set = 0; set <= all(); set++) {
            if (Integer.bitCount(set) > Integer.bitCount(best) && isApart(set)) {
                best = set;
            }
        }
        return best;
    }

    public int close() {
        int best = 0;
        for (int set = 0; set <= all(); set++) {
            if (Integer.bitCount(set) > Integer.bitCount(best) && isClose(set)) {
                best = set;
            }
        }
        return best;
    }

    public int loose() throws IllegalStateException {
        nameAll();
        return looseEnds();
    }

    public int barrier() throws IllegalStateException {
        nameAll();
        int loose = looseEnds();
        int besideLoose = 0;
        for (int v = 0; v < count; v++) {
            int pair = pairOf(v);
            if ((pair & loose) != 0) {
                besideLoose |= pair;
            }
        }
        return besideLoose & ~loose;
    }

    private void checkTwo(int u, int v) {
        checkVertex(u);
        checkVertex(v);
        if (u == v) {
            throw new IllegalArgumentException("two different vertices are needed");
        }
    }

    private void checkVertex(int v) {
        if (v < 0 || v >= count) {
            throw new IndexOutOfBoundsException("no such vertex");
        }
    }

    private static int only(int member) {
        return 1 << member;
    }

    private static boolean has(int set, int member) {
        return (set & only(member)) != 0;
    }

    private int all() {
        return only(count) - 1;
    }

    /** The vertices that are adjacent to one of the set or more. */
    private int neighboursOf(int set) {
        int found = 0;
        for (int v = 0; v < count; v++) {
            if (has(set, v)) {
                found |= neighbours[v];
            }
        }
        return found;
    }

    private boolean isApart(int set) {
        return (neighboursOf(set) & set) == 0;
    }

    private boolean isClose(int set) {
        for (int v = 0; v < count; v++) {
            if (has(set, v) && (set & ~only(v) & ~neighbours[v]) != 0) {
                return false;
            }
        }
        return true;
    }

    private void nameAll() {
        if (!findNaming(all())) {
            throw new IllegalStateException("it is no line graph");
        }
    }

    /** Whether the set is a line set; if so, lows, highs and used tell its naming afterwards. */
    private boolean findNaming(int set) {
        for (int end = 0; end < MOST_ENDS; end++) {
            holders[end] = 0;
        }
        used = 0;
        return nameFrom(0, set);
    }

    /**
     * Names the vertices of the set from v on, those before v being named. Pairs are tried in the
     * order of rows, so the first naming found is the least. A new number is always the next unused
     * one: exchanging the two would make any other row less.
     */
    private boolean nameFrom(int v, int set) {
        if (v >= count) {
            return true;
        }
        if (!has(set, v)) {
            return nameFrom(v + 1, set);
        }
        int before = neighbours[v] & set & (only(v) - 1);
        int usedBefore = used;
        for (int low = 0; low <= usedBefore; low++) {
            int lastHigh = Math.min(Math.max(usedBefore, low + 1), MOST_ENDS - 1);
            for (int high = low + 1; high <= lastHigh; high++) {
                if (fits(low, high, before)) {
                    give(v, low, high);
                    if (nameFrom(v + 1, set)) {
                        return true;
                    }
                    takeBack(v, usedBefore);
                }
            }
        }
        return false;
    }

    /**
     * Whether a vertex with this pair shares a number with just the given ones of those named so
     * far, and its pair with none: a holder of both numbers would have the same pair.
     */
    private boolean fits(int low, int high, int sharing) {
        return (holders[low] | holders[high]) == sharing && (holders[low] & holders[high]) == 0;
    }

    private void give(int v, int low, int high) {
        lows[v] = low;
        highs[v] = high;
        holders[low] |= only(v);
        holders[high] |= only(v);
        used = Math.max(used, high + 1);
    }

    private void takeBack(int v, int usedBefore) {
        holders[lows[v]] &= ~only(v);
        holders[highs[v]] &= ~only(v);
        used = usedBefore;
    }

    private int pairOf(int v) {
        return only(lows[v]) | only(highs[v]);
    }

    private int endsOf(int set) {
        int found = 0;
        for (int v = 0; v < count; v++) {
            if (has(set, v)) {
                found |= pairOf(v);
            }
        }
        return found;
    }

    /** The loose ends by the naming of all vertices, which must have been found. */
    private int looseEnds() {
        int greatest = Integer.bitCount(apart());
        int ends = only(used) - 1;
        int loose = 0;
        for (int set = 0; set <= all(); set++) {
            if (Integer.bitCount(set) == greatest && isApart(set)) {
                loose |= ends & ~endsOf(set);
            }
        }
        return loose;
    }
}
