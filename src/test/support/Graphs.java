/** Ways to make objects of PairedEnds. */
final class Graphs {
    private Graphs() {
    }

    /**
     * Beineke's nine graphs that are no line graphs while each part of them is one: the number of
     * vertices and then the edges, two numbers each.
     */
    static final int[][] SPOILING = {
        {4, 0, 1, 0, 2, 0, 3},
        {5, 0, 2, 1, 2, 0, 3, 1, 3, 2, 3, 0, 4, 1, 4},
        {5, 0, 1, 0, 2, 1, 2, 0, 3, 1, 3, 2, 3, 0, 4, 1, 4, 2, 4},
        {6, 0, 2, 1, 2, 0, 3, 1, 3, 2, 3, 1, 4, 0, 5},
        {6, 0, 1, 0, 2, 1, 2, 1, 3, 2, 3, 1, 4, 2, 4, 3, 4, 0, 5},
        {6, 0, 1, 0, 2, 1, 2, 0, 3, 2, 3, 2, 4, 3, 4, 0, 5, 1, 5},
        {6, 1, 2, 0, 3, 2, 3, 0, 4, 2, 4, 3, 4, 0, 5, 1, 5},
        {6, 0, 1, 0, 2, 1, 2, 0, 3, 1, 3, 0, 4, 1, 4, 3, 4, 0, 5, 1, 5, 2, 5},
        {6, 0, 1, 0, 2, 0, 3, 2, 3, 0, 4, 1, 4, 3, 4, 0, 5, 1, 5, 2, 5},
    };

    /** One of the spoiling graphs, every vertex v having the number v + turned, from 0 again after the last. */
    static PairedEnds spoiling(int[] listed, int turned) {
        int n = listed[0];
        PairedEnds graph = made(n);
        for (int i = 1; i + 1 < listed.length; i += 2) {
            graph.join((listed[i] + turned) % n, (listed[i + 1] + turned) % n);
        }
        return graph;
    }

    /** Edges as two numbers each: made(4, 0, 1, 2, 3) has the edges 0-1 and 2-3. */
    static PairedEnds made(int n, int... ends) {
        PairedEnds graph = new PairedEnds();
        for (int v = 0; v < n; v++) {
            graph.grow();
        }
        for (int i = 0; i + 1 < ends.length; i += 2) {
            graph.join(ends[i], ends[i + 1]);
        }
        return graph;
    }

    /** The vertices have these pairs, two numbers each: ofRow(0, 1, 0, 2) has the edge 0-1. */
    static PairedEnds ofRow(int... row) {
        PairedEnds graph = made(row.length / 2);
        for (int v = 0; v < row.length / 2; v++) {
            for (int u = 0; u < v; u++) {
                int one = 1 << row[2 * u] | 1 << row[2 * u + 1];
                int other = 1 << row[2 * v] | 1 << row[2 * v + 1];
                if ((one & other) != 0) {
                    graph.join(u, v);
                }
            }
        }
        return graph;
    }

    /** Eight vertices with the fewest ends there can be: four ends have but six pairs. */
    static PairedEnds eightOfFiveEnds() {
        return ofRow(0, 1, 0, 2, 0, 3, 0, 4, 1, 2, 1, 3, 1, 4, 2, 3);
    }

    static PairedEnds ofCode(int n, int code) {
        PairedEnds graph = made(n);
        for (int bits = code; bits != 0; bits &= bits - 1) {
            turn(graph, Integer.lowestOneBit(bits), true);
        }
        return graph;
    }

    /** Joins or parts the two vertices of a bit of a code; see Namings. */
    static void turn(PairedEnds graph, int bit, boolean joined) {
        for (int v = 1; v < 8; v++) {
            for (int u = 0; u < v; u++) {
                if (Namings.bit(u, v) == bit && joined) {
                    graph.join(u, v);
                } else if (Namings.bit(u, v) == bit) {
                    graph.part(u, v);
                }
            }
        }
    }

    /** Every vertex adjacent to every other. */
    static PairedEnds full(int n) {
        return ofCode(n, (1 << n * (n - 1) / 2) - 1);
    }

    /** Each vertex adjacent to the next one. */
    static PairedEnds path(int n) {
        PairedEnds graph = made(n);
        for (int v = 1; v < n; v++) {
            graph.join(v - 1, v);
        }
        return graph;
    }

    /** Had eight vertices with all edges, was asked for its ends, and has no vertices. */
    static PairedEnds emptied() {
        PairedEnds graph = full(8);
        for (int v = 7; v >= 0; v--) {
            graph.ends();
            graph.shrink();
        }
        return graph;
    }

    /** The call as one that answers something. */
    static String shrunk(PairedEnds graph) {
        graph.shrink();
        return "nothing";
    }

    static PairedEnds cycle(int n) {
        PairedEnds graph = path(n);
        graph.join(n - 1, 0);
        return graph;
    }

    /** Vertex 0 adjacent to all others, which are apart. */
    static PairedEnds star(int n) {
        PairedEnds graph = made(n);
        for (int v = 1; v < n; v++) {
            graph.join(0, v);
        }
        return graph;
    }
}
