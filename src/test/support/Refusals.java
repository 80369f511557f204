import java.util.function.Supplier;

/** Calls that must throw, and change nothing. */
final class Refusals {
    interface CallOn {
        Object run(PairedEnds graph);
    }

    interface CallWith {
        Object run(PairedEnds graph, int number);
    }

    private Refusals() {
    }

    /**
     * The call throws so, each time, and the graph answers as one that has never got it. A graph that
     * has taken the call is asked no more: nobody knows how long its answers would take.
     */
    static void due(String what, String want, Supplier<PairedEnds> maker, CallOn call) {
        String untouched = Answers.nowAndLater(maker.get());
        PairedEnds fresh = maker.get();
        if (Checks.due(what, want, () -> call.run(fresh)) && Checks.due(what + " again", want, () -> call.run(fresh))) {
            Checks.same("after " + what, Answers.nowAndLater(fresh), untouched);
        }
        PairedEnds asked = maker.get();
        Answers.now(asked);
        if (Checks.due(what + " of one that has been asked", want, () -> call.run(asked))) {
            Checks.same("after " + what + " of one that has been asked", Answers.nowAndLater(asked), untouched);
        }
    }

    /** No number but those of vertices will do, in graphs with none, some and all of the vertices. */
    static void dueForNoVertex(String what, CallWith call) {
        for (int n : new int[] {0, 1, 4, 7, 8}) {
            for (int wrong : noVertices(n)) {
                String named = what + " with " + wrong + " of " + n + " vertices";
                due(named + " in a path", Checks.NO_VERTEX, () -> Graphs.path(n), graph -> call.run(graph, wrong));
                due(named + " in a star", Checks.NO_VERTEX, () -> Graphs.star(n), graph -> call.run(graph, wrong));
            }
        }
        due(what + " with a vertex that has gone", Checks.NO_VERTEX, () -> {
            PairedEnds graph = Graphs.full(4);
            graph.shrink();
            return graph;
        }, graph -> call.run(graph, 3));
    }

    /** Those next to the vertices' numbers, and those that a shift or a narrower type takes for one. */
    static int[] noVertices(int n) {
        return new int[] {
            -1, n, n + 1, 8, 9, 15, 16, 31, 32, 33, 64, 255, 256, 65536, -7, -8, -31, -32, -256,
            Integer.MAX_VALUE, Integer.MIN_VALUE, Integer.MIN_VALUE + 1,
        };
    }
}
