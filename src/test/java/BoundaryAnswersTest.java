import java.util.ArrayList;
import java.util.List;
import java.util.function.Supplier;

/** The boundary cases of promises 6 to 18, one test for each sentence. */
public final class BoundaryAnswersTest {
    public static void main(String[] args) {
        Checks.sentence("Promise 6", "Whether u and v are adjacent", BoundaryAnswersTest::adjacentEitherWay);
        Checks.sentence("Promise 6", "(a vertex is not adjacent to itself)", BoundaryAnswersTest::notToItself);
        Checks.sentence("Promise 6", "throws IndexOutOfBoundsException", BoundaryAnswersTest::adjacentOfNoVertex);
        Checks.sentence("Promise 7", "n", BoundaryAnswersTest::verticesFromNoneToEight);
        Checks.sentence("Promise 8", "The number of edges", BoundaryAnswersTest::edgesFromNoneToAll);
        Checks.sentence("Promise 9", "The least vertex that can be reached from v along edges",
                BoundaryAnswersTest::leaderAtTheFarthest);
        Checks.sentence("Promise 9", "(v itself can be)", BoundaryAnswersTest::leaderOfItself);
        Checks.sentence("Promise 9", "throws IndexOutOfBoundsException", BoundaryAnswersTest::leaderOfNoVertex);
        Checks.sentence("Promise 10", "Whether it is a line graph: with no vertices",
                BoundaryAnswersTest::noneIsALineGraph);
        Checks.sentence("Promise 10", "Whether it is a line graph: few or eight vertices",
                BoundaryAnswersTest::lineGraphs);
        Checks.sentence("Promise 10", "Whether it is a line graph: the least graphs that are none",
                BoundaryAnswersTest::noLineGraphs);
        Checks.sentence("Promise 11", "How many ends there are", BoundaryAnswersTest::endsFromNoneToSixteen);
        Checks.sentence("Promise 11", "IllegalStateException when it is no line graph",
                BoundaryAnswersTest::endsOfNoLineGraph);
        Checks.sentence("Promise 12", "The lesser number of the pair of v", BoundaryAnswersTest::lowFromNoughtOn);
        Checks.sentence("Promise 12", "throws IndexOutOfBoundsException", BoundaryAnswersTest::lowOfNoVertex);
        Checks.sentence("Promise 12", "IllegalStateException when it is no line graph",
                BoundaryAnswersTest::lowOfNoLineGraph);
        Checks.sentence("Promise 13", "The greater number of the pair of v", BoundaryAnswersTest::highUpToFifteen);
        Checks.sentence("Promise 13", "throws IndexOutOfBoundsException", BoundaryAnswersTest::highOfNoVertex);
        Checks.sentence("Promise 13", "IllegalStateException when it is no line graph",
                BoundaryAnswersTest::highOfNoLineGraph);
        Checks.sentence("Promise 14", "The set that is left", BoundaryAnswersTest::spoilerOfTheLeastGraphs);
        Checks.sentence("Promise 14", "when one goes through the vertices 0, 1, ..",
                BoundaryAnswersTest::spoilerInOrder);
        Checks.sentence("Promise 14", "takes each one away for good if the rest is still no line set",
                BoundaryAnswersTest::spoilerForGood);
        Checks.sentence("Promise 14", "The set that is left: the graph itself stays as it is",
                BoundaryAnswersTest::spoilerTakesNothing);
        Checks.sentence("Promise 14", "IllegalStateException when it is a line graph",
                BoundaryAnswersTest::spoilerOfALineGraph);
        Checks.sentence("Promise 15", "Of the sets apart with the greatest size the least",
                BoundaryAnswersTest::apartFromEmptyToFull);
        Checks.sentence("Promise 16", "Of the close sets with the greatest size the least",
                BoundaryAnswersTest::closeFromEmptyToFull);
        Checks.sentence("Promise 17", "The set of the loose ends", BoundaryAnswersTest::looseFromNoneToAll);
        Checks.sentence("Promise 17", "IllegalStateException when it is no line graph",
                BoundaryAnswersTest::looseOfNoLineGraph);
        Checks.sentence("Promise 18", "The set of the ends that are a barrier",
                BoundaryAnswersTest::barrierFromNoneOn);
        Checks.sentence("Promise 18", "IllegalStateException when it is no line graph",
                BoundaryAnswersTest::barrierOfNoLineGraph);
        Checks.finish();
    }

    private static List<PairedEnds> withNone() {
        return List.of(new PairedEnds(), Graphs.emptied());
    }

    private static void adjacentEitherWay() {
        PairedEnds path = Graphs.path(8);
        for (int u = 0; u < 8; u++) {
            for (int v = 0; v < 8; v++) {
                int one = u;
                int other = v;
                boolean next = u - v == 1 || v - u == 1;
                Checks.due("adjacent(" + u + ", " + v + ")", next, () -> path.adjacent(one, other));
            }
        }
    }

    private static void notToItself() {
        for (int n = 1; n <= 8; n++) {
            PairedEnds bare = Graphs.made(n);
            PairedEnds full = Graphs.full(n);
            for (int v = 0; v < n; v++) {
                int same = v;
                Checks.due("adjacent(v, v) without edges", false, () -> bare.adjacent(same, same));
                Checks.due("adjacent(v, v) with all edges", false, () -> full.adjacent(same, same));
            }
        }
        PairedEnds refused = Graphs.full(3);
        Checks.due("join(1, 1)", Checks.ONE_VERTEX, () -> refused.join(1, 1));
        Checks.due("adjacent(1, 1) after that", false, () -> refused.adjacent(1, 1));
    }

    private static void adjacentOfNoVertex() {
        Refusals.dueForNoVertex("adjacent first", (graph, wrong) -> graph.adjacent(wrong, 0));
        Refusals.dueForNoVertex("adjacent second", (graph, wrong) -> graph.adjacent(0, wrong));
        // A number that is no vertex's is refused before anyone asks whether the two are one.
        Refusals.dueForNoVertex("adjacent both", (graph, wrong) -> graph.adjacent(wrong, wrong));
    }

    private static void verticesFromNoneToEight() {
        for (PairedEnds none : withNone()) {
            Checks.due("vertices() of none", 0, none::vertices);
        }
        PairedEnds graph = new PairedEnds();
        for (int n = 1; n <= 8; n++) {
            graph.grow();
            Checks.due("vertices() of " + n, n, graph::vertices);
        }
        Checks.due("grow() with 8", Checks.STATE, graph::grow);
        Checks.due("vertices() after a refused grow()", 8, graph::vertices);
    }

    private static void edgesFromNoneToAll() {
        for (PairedEnds none : withNone()) {
            Checks.due("edges() of none", 0, none::edges);
        }
        for (int n = 1; n <= 8; n++) {
            PairedEnds bare = Graphs.made(n);
            PairedEnds full = Graphs.full(n);
            Checks.due("edges() of " + n + " without edges", 0, bare::edges);
            Checks.due("edges() of " + n + " with all edges", n * (n - 1) / 2, full::edges);
        }
        PairedEnds twice = Graphs.made(8, 0, 7, 7, 0);
        Checks.due("edges() of one joined twice", 1, twice::edges);
        twice.part(0, 7);
        twice.part(0, 7);
        Checks.due("edges() of one parted twice", 0, twice::edges);
    }

    private static void leaderAtTheFarthest() {
        Checks.due("leader(7) along seven edges", 0, () -> Graphs.path(8).leader(7));
        // The way from 1 to 0 leads through all others and first away from 0.
        PairedEnds winding = Graphs.made(8, 1, 3, 3, 5, 5, 7, 7, 6, 6, 4, 4, 2, 2, 0);
        for (int v = 0; v < 8; v++) {
            int from = v;
            Checks.due("leader(" + v + ") of the winding way", 0, () -> winding.leader(from));
        }
        winding.part(7, 6);
        Checks.due("leader(7) of its first half", 1, () -> winding.leader(7));
        Checks.due("leader(6) of its last half", 0, () -> winding.leader(6));
        // Only the last vertex holds 0 and 1 together.
        PairedEnds held = Graphs.made(3, 0, 2, 2, 1);
        Checks.due("leader(1) by way of the last", 0, () -> held.leader(1));
        held.shrink();
        Checks.due("leader(1) without the last", 1, () -> held.leader(1));
        held.grow();
        Checks.due("leader(1) when the last has come back", 1, () -> held.leader(1));
    }

    private static void leaderOfItself() {
        PairedEnds bare = Graphs.made(8);
        PairedEnds full = Graphs.full(8);
        for (int v = 0; v < 8; v++) {
            int of = v;
            Checks.due("leader(" + v + ") without edges", v, () -> bare.leader(of));
            Checks.due("leader(" + v + ") with all edges", 0, () -> full.leader(of));
        }
        Checks.due("leader(0) of one", 0, () -> Graphs.made(1).leader(0));
        Checks.due("leader(6) beside 7 alone", 6, () -> Graphs.made(8, 6, 7).leader(6));
    }

    private static void leaderOfNoVertex() {
        Refusals.dueForNoVertex("leader", PairedEnds::leader);
    }

    private static void noneIsALineGraph() {
        for (PairedEnds none : withNone()) {
            Checks.due("isLine() of none", true, none::isLine);
        }
    }

    private static void lineGraphs() {
        for (int n = 1; n <= 8; n++) {
            PairedEnds bare = Graphs.made(n);
            PairedEnds full = Graphs.full(n);
            PairedEnds path = Graphs.path(n);
            Checks.due("isLine() of " + n + " apart", true, bare::isLine);
            Checks.due("isLine() of " + n + " close", true, full::isLine);
            Checks.due("isLine() of a path of " + n, true, path::isLine);
        }
        // The least graph that is none has four vertices.
        for (int code = 0; code < 8; code++) {
            PairedEnds three = Graphs.ofCode(3, code);
            Checks.due("isLine() of three, " + code, true, three::isLine);
        }
        Checks.due("isLine() of eight with five ends", true, () -> Graphs.eightOfFiveEnds().isLine());
    }

    private static void noLineGraphs() {
        for (int[] listed : Graphs.SPOILING) {
            for (int turned = 0; turned < listed[0]; turned++) {
                PairedEnds graph = Graphs.spoiling(listed, turned);
                Checks.due("isLine() of a spoiling graph", false, graph::isLine);
                PairedEnds wider = Graphs.spoiling(listed, turned);
                for (int v = listed[0]; v < 8; v++) {
                    wider.grow();
                }
                Checks.due("isLine() of it among eight", false, wider::isLine);
                graph.shrink();
                Checks.due("isLine() of it without one vertex", true, graph::isLine);
            }
        }
    }

    private static void endsFromNoneToSixteen() {
        for (PairedEnds none : withNone()) {
            Checks.due("ends() of none", 0, none::ends);
        }
        for (int n = 1; n <= 8; n++) {
            PairedEnds bare = Graphs.made(n);
            PairedEnds full = Graphs.full(n);
            Checks.due("ends() of " + n + " apart", 2 * n, bare::ends);
            Checks.due("ends() of " + n + " close", n + 1, full::ends);
        }
        Checks.due("ends() of eight with the fewest", 5, () -> Graphs.eightOfFiveEnds().ends());
    }

    /** The nine least ones, all as they are and two among eight vertices. */
    private static List<Supplier<PairedEnds>> noLineGraphMakers() {
        List<Supplier<PairedEnds>> makers = new ArrayList<>();
        for (int[] listed : Graphs.SPOILING) {
            makers.add(() -> Graphs.spoiling(listed, 0));
        }
        makers.add(() -> Graphs.star(8));
        makers.add(() -> Graphs.made(8, 7, 6, 7, 5, 7, 4));
        return makers;
    }

    private static void refusedByNoLineGraphs(String what, Refusals.CallOn call) {
        for (Supplier<PairedEnds> maker : noLineGraphMakers()) {
            Refusals.due(what, Checks.STATE, maker, call);
        }
        // Whether it is refused is a matter of now: not before the last edge, and not after it has gone.
        PairedEnds graph = Graphs.star(3);
        graph.grow();
        String before = Checks.outcome(() -> call.run(graph));
        Checks.due(what + " is refused before the last edge", false, () -> before.startsWith("throws."));
        graph.join(0, 3);
        Checks.due(what + " with the last edge", Checks.STATE, () -> call.run(graph));
        graph.part(0, 3);
        Checks.due(what + " without it again", before, () -> call.run(graph));
    }

    private static void endsOfNoLineGraph() {
        refusedByNoLineGraphs("ends()", PairedEnds::ends);
    }

    private static void lowFromNoughtOn() {
        PairedEnds bare = Graphs.made(8);
        PairedEnds full = Graphs.full(8);
        for (int v = 0; v < 8; v++) {
            int of = v;
            Checks.due("low(" + v + ") of eight apart", 2 * v, () -> bare.low(of));
            Checks.due("low(" + v + ") of eight close", 0, () -> full.low(of));
        }
        Checks.due("low(0) of one", 0, () -> Graphs.made(1).low(0));
        // The pair is 1 2: the lesser number is not 0, and the greater is not a new one.
        Checks.due("low(3) of a triangle and a vertex beside two", 1, () -> Graphs.ofRow(0, 1, 0, 2, 0, 3, 1, 2).low(3));
    }

    private static void lowOfNoVertex() {
        Refusals.dueForNoVertex("low", PairedEnds::low);
    }

    private static void lowOfNoLineGraph() {
        for (int v = 0; v < 4; v++) {
            int of = v;
            refusedByNoLineGraphs("low(" + v + ")", graph -> graph.low(of));
        }
        Refusals.due("low(7)", Checks.STATE, () -> Graphs.star(8), graph -> graph.low(7));
    }

    private static void highUpToFifteen() {
        PairedEnds bare = Graphs.made(8);
        PairedEnds full = Graphs.full(8);
        for (int v = 0; v < 8; v++) {
            int of = v;
            Checks.due("high(" + v + ") of eight apart", 2 * v + 1, () -> bare.high(of));
            Checks.due("high(" + v + ") of eight close", v + 1, () -> full.high(of));
        }
        Checks.due("high(0) of one", 1, () -> Graphs.made(1).high(0));
        Checks.due("high(3) of a triangle and a vertex beside two", 2, () -> Graphs.ofRow(0, 1, 0, 2, 0, 3, 1, 2).high(3));
    }

    private static void highOfNoVertex() {
        Refusals.dueForNoVertex("high", PairedEnds::high);
    }

    private static void highOfNoLineGraph() {
        for (int v = 0; v < 4; v++) {
            int of = v;
            refusedByNoLineGraphs("high(" + v + ")", graph -> graph.high(of));
        }
        Refusals.due("high(7)", Checks.STATE, () -> Graphs.star(8), graph -> graph.high(7));
    }

    /** Nothing of them can go; what is beside them does. */
    private static void spoilerOfTheLeastGraphs() {
        for (int[] listed : Graphs.SPOILING) {
            int n = listed[0];
            for (int turned = 0; turned < n; turned++) {
                PairedEnds graph = Graphs.spoiling(listed, turned);
                Checks.due("spoiler() of a spoiling graph", (1 << n) - 1, graph::spoiler);
                for (int v = n; v < 8; v++) {
                    graph.grow();
                }
                Checks.due("spoiler() of it among eight", (1 << n) - 1, graph::spoiler);
            }
        }
    }

    private static void spoilerInOrder() {
        // Two stars of four: that with the lesser vertices goes, since they are tried first.
        Checks.due("spoiler() of two stars", 240, () -> Graphs.made(8, 0, 1, 0, 2, 0, 3, 4, 5, 4, 6, 4, 7).spoiler());
        Checks.due("spoiler() of two mixed stars", 4 + 8 + 64 + 128,
                () -> Graphs.made(8, 0, 1, 0, 4, 0, 5, 7, 2, 7, 3, 7, 6).spoiler());
        Checks.due("spoiler() of a star of eight", 1 + 32 + 64 + 128, () -> Graphs.star(8).spoiler());
        Checks.due("spoiler() with its middle last", 16 + 32 + 64 + 128,
                () -> Graphs.made(8, 7, 0, 7, 1, 7, 2, 7, 3, 7, 4, 7, 5, 7, 6).spoiler());
        Checks.due("spoiler() with the first vertex needed", 1 + 2 + 4 + 8,
                () -> Graphs.made(8, 0, 1, 0, 2, 0, 3).spoiler());
    }

    private static void spoilerForGood() {
        // Any one of the vertices 0 to 3 could go, but when 0 has gone the others are needed.
        Checks.due("spoiler() of a star of five and one", 2 + 4 + 8 + 32,
                () -> Graphs.made(6, 5, 0, 5, 1, 5, 2, 5, 3).spoiler());
        PairedEnds nearlyFull = Graphs.full(8);
        nearlyFull.part(0, 7);
        Checks.due("spoiler() of eight close but for one edge", 1 + 16 + 32 + 64 + 128, nearlyFull::spoiler);
    }

    private static void spoilerTakesNothing() {
        for (Supplier<PairedEnds> maker : noLineGraphMakers()) {
            PairedEnds graph = maker.get();
            String first = Checks.outcome(graph::spoiler);
            Checks.due("spoiler() once more", first, graph::spoiler);
            Checks.same("the graph afterwards", Answers.nowAndLater(graph), Answers.nowAndLater(maker.get()));
        }
    }

    private static void spoilerOfALineGraph() {
        Refusals.due("spoiler() of none", Checks.STATE, PairedEnds::new, PairedEnds::spoiler);
        Refusals.due("spoiler() of an emptied one", Checks.STATE, Graphs::emptied, PairedEnds::spoiler);
        for (int n = 1; n <= 8; n++) {
            int many = n;
            Refusals.due("spoiler() of " + n + " apart", Checks.STATE, () -> Graphs.made(many), PairedEnds::spoiler);
            Refusals.due("spoiler() of " + n + " close", Checks.STATE, () -> Graphs.full(many), PairedEnds::spoiler);
            Refusals.due("spoiler() of a path", Checks.STATE, () -> Graphs.path(many), PairedEnds::spoiler);
        }
        PairedEnds star = Graphs.star(4);
        Checks.due("spoiler() of a star", 15, star::spoiler);
        star.part(0, 1);
        Checks.due("spoiler() of what it is without an edge", Checks.STATE, star::spoiler);
        star.join(0, 1);
        Checks.due("spoiler() of the star again", 15, star::spoiler);
    }

    private static void apartFromEmptyToFull() {
        for (PairedEnds none : withNone()) {
            Checks.due("apart() of none", 0, none::apart);
        }
        Checks.due("apart() of one", 1, () -> Graphs.made(1).apart());
        Checks.due("apart() of eight apart", 255, () -> Graphs.made(8).apart());
        Checks.due("apart() of eight close", 1, () -> Graphs.full(8).apart());
        Checks.due("apart() of seven close and one", 1 + 128, () -> {
            PairedEnds graph = Graphs.full(7);
            graph.grow();
            return graph.apart();
        });
        // The set of 1 alone can get no other, but there is a greater one.
        Checks.due("apart() of a path of three", 1 + 4, () -> Graphs.path(3).apart());
        Checks.due("apart() of 0 3 and 1 2", 2 + 4, () -> Graphs.made(4, 0, 1, 1, 3, 3, 2, 2, 0).apart());
        Checks.due("apart() of no line graph", 254, () -> Graphs.star(8).apart());
    }

    private static void closeFromEmptyToFull() {
        for (PairedEnds none : withNone()) {
            Checks.due("close() of none", 0, none::close);
        }
        Checks.due("close() of one", 1, () -> Graphs.made(1).close());
        Checks.due("close() of eight apart", 1, () -> Graphs.made(8).close());
        Checks.due("close() of eight close", 255, () -> Graphs.full(8).close());
        Checks.due("close() of the last two", 64 + 128, () -> Graphs.made(8, 6, 7).close());
        // The set of 0 and 1 can get no other, but there is a greater one.
        Checks.due("close() of two and three", 4 + 8 + 16, () -> Graphs.made(5, 0, 1, 2, 3, 3, 4, 2, 4).close());
        Checks.due("close() of 0 3 and 1 2", 2 + 4, () -> Graphs.made(4, 0, 3, 1, 2).close());
        Checks.due("close() of no line graph", 1 + 2, () -> Graphs.star(8).close());
    }

    private static void looseFromNoneToAll() {
        for (PairedEnds none : withNone()) {
            Checks.due("loose() of none", 0, none::loose);
        }
        for (int n = 1; n <= 8; n++) {
            PairedEnds bare = Graphs.made(n);
            Checks.due("loose() of " + n + " apart", 0, bare::loose);
        }
        for (int n = 2; n <= 8; n++) {
            PairedEnds full = Graphs.full(n);
            Checks.due("loose() of " + n + " close", (2 << n) - 2, full::loose);
        }
        Checks.due("loose() of a cycle of five, all", 31, () -> Graphs.cycle(5).loose());
        Checks.due("loose() of a cycle of six, no end", 0, () -> Graphs.cycle(6).loose());
        Checks.due("loose() with the highest ends", (1 << 13) + (1 << 14), () -> Graphs.made(8, 6, 7).loose());
    }

    private static void looseOfNoLineGraph() {
        refusedByNoLineGraphs("loose()", PairedEnds::loose);
    }

    private static void barrierFromNoneOn() {
        for (PairedEnds none : withNone()) {
            Checks.due("barrier() of none", 0, none::barrier);
        }
        for (int n = 1; n <= 8; n++) {
            PairedEnds bare = Graphs.made(n);
            Checks.due("barrier() of " + n + " apart", 0, bare::barrier);
        }
        for (int n = 2; n <= 8; n++) {
            PairedEnds full = Graphs.full(n);
            Checks.due("barrier() of " + n + " close", 1, full::barrier);
        }
        Checks.due("barrier() of a cycle of five, all loose", 0, () -> Graphs.cycle(5).barrier());
        Checks.due("barrier() of a cycle of six, none loose", 0, () -> Graphs.cycle(6).barrier());
        Checks.due("barrier() with the highest end", 1 << 12, () -> Graphs.made(8, 6, 7).barrier());
    }

    private static void barrierOfNoLineGraph() {
        refusedByNoLineGraphs("barrier()", PairedEnds::barrier);
    }
}
