/** All that a graph answers, as one text: two graphs are alike when these texts are. */
final class Answers {
    private Answers() {
    }

    /** At most 97 calls, none of which changes the graph. */
    static String now(PairedEnds graph) {
        StringBuilder text = new StringBuilder();
        int n = graph.vertices();
        text.append(n).append(" vertices, ").append(graph.edges()).append(" edges, line ").append(graph.isLine());
        put(text, "ends", graph::ends);
        put(text, "spoiler", graph::spoiler);
        put(text, "apart", graph::apart);
        put(text, "close", graph::close);
        put(text, "loose", graph::loose);
        put(text, "barrier", graph::barrier);
        for (int v = 0; v < n; v++) {
            putVertex(text, graph, v, n);
        }
        return text.toString();
    }

    private static void putVertex(StringBuilder text, PairedEnds graph, int v, int n) {
        put(text, v + " leader", () -> graph.leader(v));
        put(text, "low", () -> graph.low(v));
        put(text, "high", () -> graph.high(v));
        text.append(", beside");
        for (int u = 0; u < n; u++) {
            text.append(graph.adjacent(v, u) ? " " + u : "");
        }
    }

    private static void put(StringBuilder text, String name, Checks.Call call) {
        text.append(", ").append(name).append(' ').append(Checks.outcome(call));
    }

    /**
     * Also what shows only when vertices come and go, such as an edge to a vertex that is not there.
     * The graph is used up by it, with at most 250 calls.
     */
    static String nowAndLater(PairedEnds graph) {
        StringBuilder text = new StringBuilder(now(graph));
        for (int v = graph.vertices(); v < 8; v++) {
            put(text, "grow", graph::grow);
        }
        text.append(", then ").append(now(graph));
        for (int n = graph.vertices(); n > 0; n--) {
            put(text, "shrink", () -> Graphs.shrunk(graph));
            put(text, "edges", graph::edges);
        }
        put(text, "vertices", graph::vertices);
        return text.toString();
    }
}
