/** Ways to make objects of PairedEnds. */
final class Graphs {
    private Graphs() {
    }

    /** Edges as two numbers each: made(4, 0, 1, 2, 3) has the edges 0-1 and 2-3. */
    static PairedEnds made(int n, int... ends) {
        PairedEnds graph = new PairedEnds();
        for (int v = 0; v < n; v++) {
            graph.grow();
        }
        for (int i = 0; i + 1 < ends.length; i += 2) {
            graph.join(ends[i], ends[i + 1]);
        }
        return graph;
    }

    static PairedEnds ofCode(int n, int code) {
        PairedEnds graph = made(n);
        for (int bits = code; bits != 0; bits &= bits - 1) {
            turn(graph, Integer.lowestOneBit(bits), true);
        }
        return graph;
    }

    /** Joins or parts the two vertices of a bit of a code; see Namings. */
    static void turn(PairedEnds graph, int bit, boolean joined) {
        for (int v = 1; v < 8; v++) {
            for (int u = 0; u < v; u++) {
                if (Namings.bit(u, v) == bit && joined) {
                    graph.join(u, v);
                } else if (Namings.bit(u, v) == bit) {
                    graph.part(u, v);
                }
            }
        }
    }

    /** Every vertex adjacent to every other. */
    static PairedEnds full(int n) {
        return ofCode(n, (1 << n * (n - 1) / 2) - 1);
    }

    /** Each vertex adjacent to the next one. */
    static PairedEnds path(int n) {
        PairedEnds graph = made(n);
        for (int v = 1; v < n; v++) {
            graph.join(v - 1, v);
        }
        return graph;
    }

    static PairedEnds cycle(int n) {
        PairedEnds graph = path(n);
        graph.join(n - 1, 0);
        return graph;
    }

    /** Vertex 0 adjacent to all others, which are apart. */
    static PairedEnds star(int n) {
        PairedEnds graph = made(n);
        for (int v = 1; v < n; v++) {
            graph.join(0, v);
        }
        return graph;
    }
}
