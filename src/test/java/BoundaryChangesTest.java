/** The boundary cases of promises 1 to 5, one test for each sentence. */
public final class BoundaryChangesTest {
    public static void main(String[] args) {
        Checks.sentence("Promise 1", "No vertices: what is asked of all",
                BoundaryChangesTest::newObjectAnswers);
        Checks.sentence("Promise 1", "No vertices: no number is that of one",
                BoundaryChangesTest::newObjectHasNoNumber);
        Checks.sentence("Promise 1", "No vertices: in each new object anew",
                BoundaryChangesTest::newObjectIsAStranger);
        Checks.sentence("Promise 2", "One vertex more, without edges: its number",
                BoundaryChangesTest::growGivesABareVertex);
        Checks.sentence("Promise 2", "One vertex more, without edges: also one that had some before it went",
                BoundaryChangesTest::grownAgainWithoutEdges);
        Checks.sentence("Promise 2", "IllegalStateException when there are 8",
                BoundaryChangesTest::growRefusedWithEight);
        Checks.sentence("Promise 2", "IllegalStateException when there are 8: and not when one has gone",
                BoundaryChangesTest::growAllowedBelowEight);
        Checks.sentence("Promise 3", "The last vertex goes",
                BoundaryChangesTest::shrinkTakesTheLast);
        Checks.sentence("Promise 3", "The last vertex goes with its edges",
                BoundaryChangesTest::shrinkTakesItsEdges);
        Checks.sentence("Promise 3", "IllegalStateException when there is none",
                BoundaryChangesTest::shrinkRefusedWithNone);
        Checks.sentence("Promise 3", "IllegalStateException when there is none: and not when one has come",
                BoundaryChangesTest::shrinkAllowedWithOne);
        Checks.sentence("Promise 4", "There is an edge between u and v from now on",
                BoundaryChangesTest::joinedFromNowOn);
        Checks.sentence("Promise 4", "Answers whether there was none: an edge that is there already",
                BoundaryChangesTest::joinOfAnEdge);
        Checks.sentence("Promise 4", "throws IndexOutOfBoundsException",
                BoundaryChangesTest::joinOfNoVertex);
        Checks.sentence("Promise 4", "throws IllegalArgumentException",
                BoundaryChangesTest::joinOfAVertexAndItself);
        Checks.sentence("Promise 5", "There is no edge between u and v from now on",
                BoundaryChangesTest::partedFromNowOn);
        Checks.sentence("Promise 5", "Answers whether there was one: an edge that is not there",
                BoundaryChangesTest::partOfNoEdge);
        Checks.sentence("Promise 5", "throws IndexOutOfBoundsException",
                BoundaryChangesTest::partOfNoVertex);
        Checks.sentence("Promise 5", "throws IllegalArgumentException",
                BoundaryChangesTest::partOfAVertexAndItself);
        Checks.finish();
    }

    private static void newObjectAnswers() {
        PairedEnds graph = new PairedEnds();
        Checks.due("vertices()", 0, graph::vertices);
        Checks.due("edges()", 0, graph::edges);
        Checks.due("isLine()", true, graph::isLine);
        Checks.due("ends()", 0, graph::ends);
        Checks.due("spoiler()", Checks.STATE, graph::spoiler);
        Checks.due("apart()", 0, graph::apart);
        Checks.due("close()", 0, graph::close);
        Checks.due("loose()", 0, graph::loose);
        Checks.due("barrier()", 0, graph::barrier);
        Checks.due("shrink()", Checks.STATE, () -> Graphs.shrunk(graph));
        Checks.due("grow()", 0, graph::grow);
    }

    private static void newObjectHasNoNumber() {
        for (int v : Refusals.noVertices(0)) {
            String with = " with " + v;
            Refusals.due("join" + with, Checks.NO_VERTEX, PairedEnds::new, graph -> graph.join(v, v));
            Refusals.due("join 0" + with, Checks.NO_VERTEX, PairedEnds::new, graph -> graph.join(0, v));
            Refusals.due("part" + with, Checks.NO_VERTEX, PairedEnds::new, graph -> graph.part(v, v));
            Refusals.due("part 0" + with, Checks.NO_VERTEX, PairedEnds::new, graph -> graph.part(0, v));
            Refusals.due("adjacent" + with, Checks.NO_VERTEX, PairedEnds::new, graph -> graph.adjacent(v, v));
            Refusals.due("leader" + with, Checks.NO_VERTEX, PairedEnds::new, graph -> graph.leader(v));
            Refusals.due("low" + with, Checks.NO_VERTEX, PairedEnds::new, graph -> graph.low(v));
            Refusals.due("high" + with, Checks.NO_VERTEX, PairedEnds::new, graph -> graph.high(v));
        }
    }

    private static void newObjectIsAStranger() {
        PairedEnds full = Graphs.full(8);
        PairedEnds graph = new PairedEnds();
        Checks.due("vertices()", 0, graph::vertices);
        Checks.due("edges()", 0, graph::edges);
        graph.grow();
        graph.grow();
        Checks.due("adjacent(0, 1)", false, () -> graph.adjacent(0, 1));
        Checks.due("edges() of the one before", 28, full::edges);
    }

    private static void growGivesABareVertex() {
        PairedEnds graph = new PairedEnds();
        for (int v = 0; v < 8; v++) {
            int grown = v;
            Checks.due("grow() with " + v, v, graph::grow);
            Checks.due("vertices()", v + 1, graph::vertices);
            Checks.due("leader(" + v + ")", v, () -> graph.leader(grown));
            bare(graph, v);
            // The next one is to have no edge though all before it have.
            for (int u = 0; u < v; u++) {
                graph.join(u, v);
            }
        }
        Checks.due("edges()", 28, graph::edges);
    }

    private static void bare(PairedEnds graph, int v) {
        for (int u = 0; u < graph.vertices(); u++) {
            int other = u;
            Checks.due("adjacent(" + v + ", " + u + ")", false, () -> graph.adjacent(v, other));
            Checks.due("adjacent(" + u + ", " + v + ")", false, () -> graph.adjacent(other, v));
        }
    }

    private static void grownAgainWithoutEdges() {
        for (int gone = 1; gone <= 8; gone++) {
            PairedEnds graph = Graphs.full(8);
            int stay = 8 - gone;
            for (int i = 0; i < gone; i++) {
                graph.shrink();
            }
            for (int v = stay; v < 8; v++) {
                Checks.due("grow() after " + gone + " went", v, graph::grow);
                bare(graph, v);
            }
            Checks.due("edges() after " + gone + " came back", stay * (stay - 1) / 2, graph::edges);
            Checks.due("leader(7) after " + gone + " came back", 7, () -> graph.leader(7));
            Checks.due("apart() after " + gone + " came back", 256 - (1 << stay) + (stay > 0 ? 1 : 0), graph::apart);
            Checks.due("join(0, 7) after " + gone + " came back", true, () -> graph.join(0, 7));
        }
    }

    private static void growRefusedWithEight() {
        Refusals.due("grow() with no edge", Checks.STATE, () -> Graphs.made(8), PairedEnds::grow);
        Refusals.due("grow() with all edges", Checks.STATE, () -> Graphs.full(8), PairedEnds::grow);
        Refusals.due("grow() with a path", Checks.STATE, () -> Graphs.path(8), PairedEnds::grow);
        Refusals.due("grow() with no line graph", Checks.STATE, () -> Graphs.star(8), PairedEnds::grow);
        PairedEnds graph = Graphs.made(7);
        Checks.due("grow() with seven", 7, graph::grow);
        Checks.due("grow() with eight", Checks.STATE, graph::grow);
        Checks.due("vertices()", 8, graph::vertices);
    }

    private static void growAllowedBelowEight() {
        PairedEnds graph = Graphs.full(8);
        Checks.due("grow() with eight", Checks.STATE, graph::grow);
        graph.shrink();
        Checks.due("grow() after one went", 7, graph::grow);
        Checks.due("grow() with eight again", Checks.STATE, graph::grow);
        Checks.due("edges()", 21, graph::edges);
    }

    private static void shrinkTakesTheLast() {
        PairedEnds graph = Graphs.path(8);
        for (int v = 7; v >= 0; v--) {
            int gone = v;
            Checks.due("shrink() with " + (v + 1), "nothing", () -> Graphs.shrunk(graph));
            Checks.due("vertices()", v, graph::vertices);
            Checks.due("leader(" + v + ") of the gone", Checks.NO_VERTEX, () -> graph.leader(gone));
            for (int u = 1; u < v; u++) {
                int stays = u;
                Checks.due("adjacent(" + (u - 1) + ", " + u + ")", true, () -> graph.adjacent(stays - 1, stays));
            }
        }
    }

    private static void shrinkTakesItsEdges() {
        PairedEnds full = Graphs.full(8);
        for (int n = 7; n >= 0; n--) {
            full.shrink();
            Checks.due("edges() with " + n, n * (n - 1) / 2, full::edges);
        }
        PairedEnds star = Graphs.made(4, 3, 0, 3, 1, 3, 2);
        Checks.due("isLine() of a star", false, star::isLine);
        star.shrink();
        Checks.due("isLine() without its middle", true, star::isLine);
        Checks.due("edges() without its middle", 0, star::edges);
        Checks.due("apart() without its middle", 7, star::apart);
        Checks.due("leader(2) without its middle", 2, () -> star.leader(2));
        star.grow();
        Checks.due("isLine() when it has come back", true, star::isLine);
        Checks.due("edges() when it has come back", 0, star::edges);
    }

    private static void shrinkRefusedWithNone() {
        Refusals.due("shrink() of a new one", Checks.STATE, PairedEnds::new, Graphs::shrunk);
        Refusals.due("shrink() of an emptied one", Checks.STATE, Graphs::emptied, Graphs::shrunk);
        PairedEnds graph = Graphs.made(1);
        Checks.due("shrink() with one", "nothing", () -> Graphs.shrunk(graph));
        Checks.due("shrink() with none", Checks.STATE, () -> Graphs.shrunk(graph));
        Checks.due("vertices()", 0, graph::vertices);
        Checks.due("grow() afterwards", 0, graph::grow);
    }

    private static void shrinkAllowedWithOne() {
        PairedEnds graph = new PairedEnds();
        Checks.due("shrink() with none", Checks.STATE, () -> Graphs.shrunk(graph));
        graph.grow();
        Checks.due("shrink() after one came", "nothing", () -> Graphs.shrunk(graph));
        Checks.due("shrink() with none again", Checks.STATE, () -> Graphs.shrunk(graph));
        Checks.due("vertices()", 0, graph::vertices);
    }

    private static void joinedFromNowOn() {
        for (int u = 0; u < 8; u++) {
            for (int v = 0; v < 8; v++) {
                if (u != v) {
                    joinedAndStaysSo(u, v);
                }
            }
        }
    }

    private static void joinedAndStaysSo(int u, int v) {
        PairedEnds graph = Graphs.made(8);
        Checks.due("join(" + u + ", " + v + ")", true, () -> graph.join(u, v));
        onlyEdge(graph, u, v);
        graph.join((u + 1) % 8, (u + 2) % 8);
        graph.join((v + 1) % 8, (v + 3) % 8);
        graph.part((u + 1) % 8, (u + 2) % 8);
        Checks.due("adjacent after joins and parts of others", true, () -> graph.adjacent(u, v));
        Checks.outcome(graph::grow);
        Checks.outcome(() -> graph.join(u, 8));
        Checks.outcome(() -> graph.part(u, u));
        graph.isLine();
        Checks.outcome(graph::spoiler);
        Checks.due("adjacent after refused calls", true, () -> graph.adjacent(v, u));
    }

    private static void onlyEdge(PairedEnds graph, int u, int v) {
        for (int a = 0; a < 8; a++) {
            for (int b = 0; b < 8; b++) {
                int one = a;
                int other = b;
                boolean want = a == u && b == v || a == v && b == u;
                Checks.due("adjacent(" + a + ", " + b + ") after join(" + u + ", " + v + ")", want,
                        () -> graph.adjacent(one, other));
            }
        }
        Checks.due("edges() after join(" + u + ", " + v + ")", 1, graph::edges);
    }

    private static void joinOfAnEdge() {
        PairedEnds graph = Graphs.path(8);
        Checks.due("join(6, 7)", false, () -> graph.join(6, 7));
        Checks.due("join(7, 6)", false, () -> graph.join(7, 6));
        Checks.same("the graph afterwards", Answers.nowAndLater(graph), Answers.nowAndLater(Graphs.path(8)));
        PairedEnds again = Graphs.made(2);
        Checks.due("join(1, 0)", true, () -> again.join(1, 0));
        Checks.due("join(0, 1)", false, () -> again.join(0, 1));
        again.part(0, 1);
        Checks.due("join(0, 1) after a part", true, () -> again.join(0, 1));
        again.shrink();
        again.grow();
        Checks.due("join(0, 1) after 1 went and came back", true, () -> again.join(0, 1));
        Checks.due("edges()", 1, again::edges);
    }

    private static void joinOfNoVertex() {
        Refusals.dueForNoVertex("join first", (graph, wrong) -> graph.join(wrong, 0));
        Refusals.dueForNoVertex("join second", (graph, wrong) -> graph.join(0, wrong));
        Refusals.dueForNoVertex("join both", (graph, wrong) -> graph.join(wrong, wrong));
        Refusals.dueForNoVertex("join both with another", (graph, wrong) -> graph.join(wrong, -9));
    }

    private static void joinOfAVertexAndItself() {
        for (int v = 0; v < 8; v++) {
            int same = v;
            for (int n : new int[] {v + 1, 8}) {
                Refusals.due("join(" + v + ", " + v + ") without edges", Checks.ONE_VERTEX, () -> Graphs.made(n),
                        graph -> graph.join(same, same));
                Refusals.due("join(" + v + ", " + v + ") with all edges", Checks.ONE_VERTEX, () -> Graphs.full(n),
                        graph -> graph.join(same, same));
                Refusals.due("join(" + v + ", " + v + ") in a star", Checks.ONE_VERTEX, () -> Graphs.star(n),
                        graph -> graph.join(same, same));
            }
        }
    }

    private static void partedFromNowOn() {
        for (int u = 0; u < 8; u++) {
            for (int v = 0; v < 8; v++) {
                if (u != v) {
                    partedAndStaysSo(u, v);
                }
            }
        }
    }

    private static void partedAndStaysSo(int u, int v) {
        PairedEnds graph = Graphs.full(8);
        Checks.due("part(" + u + ", " + v + ")", true, () -> graph.part(u, v));
        Checks.due("edges() after part(" + u + ", " + v + ")", 27, graph::edges);
        Checks.due("adjacent after part(" + u + ", " + v + ")", false, () -> graph.adjacent(u, v));
        Checks.due("adjacent after part(" + u + ", " + v + ") turned", false, () -> graph.adjacent(v, u));
        Checks.due("apart() after part(" + u + ", " + v + ")", (1 << u) + (1 << v), graph::apart);
        Checks.outcome(graph::grow);
        Checks.outcome(() -> graph.part(u, 8));
        Checks.outcome(() -> graph.join(u, u));
        Checks.outcome(graph::ends);
        Checks.due("adjacent after refused calls", false, () -> graph.adjacent(v, u));
    }

    private static void partOfNoEdge() {
        PairedEnds graph = Graphs.path(8);
        Checks.due("part(0, 7)", false, () -> graph.part(0, 7));
        Checks.due("part(7, 0)", false, () -> graph.part(7, 0));
        Checks.same("the graph afterwards", Answers.nowAndLater(graph), Answers.nowAndLater(Graphs.path(8)));
        PairedEnds again = Graphs.full(2);
        Checks.due("part(1, 0)", true, () -> again.part(1, 0));
        Checks.due("part(0, 1)", false, () -> again.part(0, 1));
        again.join(0, 1);
        Checks.due("part(0, 1) after a join", true, () -> again.part(0, 1));
        again.join(0, 1);
        again.shrink();
        again.grow();
        Checks.due("part(0, 1) after 1 went and came back", false, () -> again.part(0, 1));
        Checks.due("edges()", 0, again::edges);
    }

    private static void partOfNoVertex() {
        Refusals.dueForNoVertex("part first", (graph, wrong) -> graph.part(wrong, 0));
        Refusals.dueForNoVertex("part second", (graph, wrong) -> graph.part(0, wrong));
        Refusals.dueForNoVertex("part both", (graph, wrong) -> graph.part(wrong, wrong));
        Refusals.dueForNoVertex("part both with another", (graph, wrong) -> graph.part(wrong, -9));
    }

    private static void partOfAVertexAndItself() {
        for (int v = 0; v < 8; v++) {
            int same = v;
            for (int n : new int[] {v + 1, 8}) {
                Refusals.due("part(" + v + ", " + v + ") without edges", Checks.ONE_VERTEX, () -> Graphs.made(n),
                        graph -> graph.part(same, same));
                Refusals.due("part(" + v + ", " + v + ") with all edges", Checks.ONE_VERTEX, () -> Graphs.full(n),
                        graph -> graph.part(same, same));
                Refusals.due("part(" + v + ", " + v + ") in a star", Checks.ONE_VERTEX, () -> Graphs.star(n),
                        graph -> graph.part(same, same));
            }
        }
    }
}
