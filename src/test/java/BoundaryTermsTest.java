import java.util.ArrayList;
import java.util.List;

/** The boundary cases in the document's chapters 'What it is' and 'Terms', one test for each sentence. */
public final class BoundaryTermsTest {
    private static final int MOST_CALLS = 512;
    /** What the graphs that the test of 512 calls uses take to be made: four vertices, three edges. */
    private static final int CALLS_TO_MAKE = 7;

    private record Kind(String name, Object due, Refusals.CallOn call) {
    }

    /** Every call of the face on a path of four, with what is due. */
    private static final List<Kind> ON_A_PATH = List.of(
            new Kind("grow()", 4, PairedEnds::grow),
            new Kind("shrink()", "nothing", Graphs::shrunk),
            new Kind("join(3, 0)", true, graph -> graph.join(3, 0)),
            new Kind("part(3, 2)", true, graph -> graph.part(3, 2)),
            new Kind("adjacent(3, 2)", true, graph -> graph.adjacent(3, 2)),
            new Kind("vertices()", 4, PairedEnds::vertices),
            new Kind("edges()", 3, PairedEnds::edges),
            new Kind("leader(3)", 0, graph -> graph.leader(3)),
            new Kind("isLine()", true, PairedEnds::isLine),
            new Kind("ends()", 5, PairedEnds::ends),
            new Kind("low(3)", 3, graph -> graph.low(3)),
            new Kind("high(3)", 4, graph -> graph.high(3)),
            new Kind("spoiler()", Checks.STATE, PairedEnds::spoiler),
            new Kind("apart()", 1 + 4, PairedEnds::apart),
            new Kind("close()", 1 + 2, PairedEnds::close),
            new Kind("loose()", 2 + 4 + 16, PairedEnds::loose),
            new Kind("barrier()", 1 + 8, PairedEnds::barrier));

    /** Those of them that answer otherwise on a star of four, which is no line graph. */
    private static final List<Kind> ON_A_STAR = List.of(
            new Kind("isLine()", false, PairedEnds::isLine),
            new Kind("ends()", Checks.STATE, PairedEnds::ends),
            new Kind("low(3)", Checks.STATE, graph -> graph.low(3)),
            new Kind("high(3)", Checks.STATE, graph -> graph.high(3)),
            new Kind("spoiler()", 15, PairedEnds::spoiler),
            new Kind("apart()", 2 + 4 + 8, PairedEnds::apart),
            new Kind("loose()", Checks.STATE, PairedEnds::loose),
            new Kind("barrier()", Checks.STATE, PairedEnds::barrier));

    public static void main(String[] args) {
        Checks.sentence("What it is", "An object is used for at most 512 calls after it has been made",
                BoundaryTermsTest::the512thCallAnswers);
        Checks.sentence("What it is", "An object is used for at most 512 calls: those that are refused among them",
                BoundaryTermsTest::the512thCallAfterRefusedOnes);
        Checks.sentence("Terms", "There are VERTICES 0 .. n - 1 (n at most 8)",
                BoundaryTermsTest::numbersOfVertices);
        Checks.sentence("Terms", "between two different ones there is an EDGE or none",
                BoundaryTermsTest::oneEdgeBetweenTwo);
        Checks.sentence("Terms", "A SET of vertices is given as the sum of the powers 2^v",
                BoundaryTermsTest::setsFromEmptyToFull);
        Checks.sentence("Terms", "of sets one is LESS than another as these numbers are",
                BoundaryTermsTest::lessIsByNumber);
        Checks.sentence("Terms", "gives each of them a PAIR of two different numbers from 0 on",
                BoundaryTermsTest::pairsStartFromNought);
        Checks.sentence("Terms", "no two vertices the same pair", BoundaryTermsTest::noPairTwice);
        Checks.sentence("Terms", "two of them are adjacent exactly when their pairs have a number in common",
                BoundaryTermsTest::commonNumbersAreEdges);
        Checks.sentence("Terms", "The empty set is one", BoundaryTermsTest::emptySetIsALineSet);
        Checks.sentence("Terms", "THE NAMING of a line set is that whose ROW is the least",
                BoundaryTermsTest::leastRow);
        Checks.sentence("Terms", "the numbers of the naming of all its vertices are its ENDS",
                BoundaryTermsTest::endsAreTheNumbersUsed);
        Checks.sentence("Terms", "Sets of ends are given as those of vertices", BoundaryTermsTest::setsOfEnds);
        Checks.sentence("Terms", "APART when no two of it are adjacent, and CLOSE when any two are",
                BoundaryTermsTest::setsWithoutTwo);
        Checks.sentence("Terms", "LOOSE when there is a set apart with the greatest possible size none of whose "
                + "pairs has that end", BoundaryTermsTest::onlyGreatestSetsMakeLoose);
        Checks.sentence("Terms", "a BARRIER when it is not loose, but some vertex's pair has it and a loose end",
                BoundaryTermsTest::barrierIsBesideLoose);
        Checks.sentence("Terms", "Where a call throws more than one, the first one in its list that applies is thrown",
                BoundaryTermsTest::firstInTheListIsThrown);
        Checks.sentence("Terms", "IndexOutOfBoundsException when a number of a vertex in it is not that of one",
                BoundaryTermsTest::everyNumberIsLookedAt);
        Checks.sentence("Terms", "IllegalArgumentException when the two vertices are one",
                BoundaryTermsTest::twoVerticesThatAreOne);
        Checks.sentence("Terms", "A call that throws changes nothing", BoundaryTermsTest::refusedCallsInARow);
        Checks.finish();
    }

    private static void the512thCallAnswers() {
        for (Kind kind : ON_A_PATH) {
            last(kind, Graphs.path(4), "on a path");
        }
        for (Kind kind : ON_A_STAR) {
            last(kind, Graphs.star(4), "on a star");
        }
        // The first four change the graph, so what is due would not be the same each time.
        for (Kind kind : ON_A_PATH.subList(4, ON_A_PATH.size())) {
            allOfOneKind(kind, Graphs.path(4), "on a path");
        }
        for (Kind kind : ON_A_STAR) {
            allOfOneKind(kind, Graphs.star(4), "on a star");
        }
        comeAndGo(new PairedEnds());
    }

    /** The calls before it are answered, refused and changing ones by turns; all that changes is undone. */
    private static void last(Kind kind, PairedEnds graph, String where) {
        int calls = CALLS_TO_MAKE;
        for (; calls + 8 < MOST_CALLS; calls += 8) {
            Checks.outcome(() -> graph.join(0, 0));
            Checks.outcome(() -> graph.low(4));
            Checks.outcome(graph::spoiler);
            Checks.outcome(graph::barrier);
            graph.join(1, 3);
            graph.part(1, 3);
            graph.grow();
            graph.shrink();
        }
        for (; calls + 1 < MOST_CALLS; calls++) {
            graph.isLine();
        }
        Checks.due(kind.name() + " " + where + " as call " + (calls + 1), kind.due(), () -> kind.call().run(graph));
    }

    private static void allOfOneKind(Kind kind, PairedEnds graph, String where) {
        for (int call = CALLS_TO_MAKE + 1; call <= MOST_CALLS; call++) {
            Checks.due(kind.name() + " " + where + " as call " + call, kind.due(), () -> kind.call().run(graph));
        }
    }

    /** The eight vertices come and go 32 times, which is 512 calls. */
    private static void comeAndGo(PairedEnds graph) {
        for (int calls = 0; calls < MOST_CALLS; calls += 16) {
            for (int v = 0; v < 8; v++) {
                Checks.due("grow() after some " + calls + " calls", v, graph::grow);
            }
            for (int v = 0; v < 8; v++) {
                Checks.due("shrink() after some " + calls + " calls", "nothing", () -> Graphs.shrunk(graph));
            }
        }
    }

    /** One kind of call is refused time and again, until it is allowed as the last one of all. */
    private static void the512thCallAfterRefusedOnes() {
        PairedEnds eight = Graphs.made(8);
        refuse(MOST_CALLS - 8 - 2, "grow()", Checks.STATE, eight, PairedEnds::grow);
        eight.shrink();
        Checks.due("grow() as call 512", 7, eight::grow);

        PairedEnds none = new PairedEnds();
        refuse(MOST_CALLS - 2, "shrink()", Checks.STATE, none, Graphs::shrunk);
        none.grow();
        Checks.due("shrink() as call 512", "nothing", () -> Graphs.shrunk(none));

        for (Kind kind : List.of(
                new Kind("join(0, 0)", Checks.ONE_VERTEX, graph -> graph.join(0, 0)),
                new Kind("part(4, 0)", Checks.NO_VERTEX, graph -> graph.part(4, 0)),
                new Kind("adjacent(0, -1)", Checks.NO_VERTEX, graph -> graph.adjacent(0, -1)),
                new Kind("leader(4)", Checks.NO_VERTEX, graph -> graph.leader(4)),
                new Kind("low(4)", Checks.NO_VERTEX, graph -> graph.low(4)),
                new Kind("high(4)", Checks.NO_VERTEX, graph -> graph.high(4)))) {
            for (Kind last : ON_A_PATH) {
                PairedEnds path = Graphs.path(4);
                refuse(MOST_CALLS - CALLS_TO_MAKE - 1, kind.name(), (String) kind.due(), path, kind.call());
                Checks.due(last.name() + " after " + kind.name(), last.due(), () -> last.call().run(path));
            }
        }
        refusedByTheState();
    }

    /** A star of four is no line graph; with the edge 1-2 more it is, by the pairs 0 1, 0 2, 0 3 and 1 4. */
    private static void refusedByTheState() {
        for (Kind kind : List.of(
                new Kind("ends()", 5, PairedEnds::ends),
                new Kind("low(3)", 1, graph -> graph.low(3)),
                new Kind("high(3)", 4, graph -> graph.high(3)),
                new Kind("loose()", 4 + 8, PairedEnds::loose),
                new Kind("barrier()", 1, PairedEnds::barrier))) {
            PairedEnds star = Graphs.star(4);
            refuse(MOST_CALLS - CALLS_TO_MAKE - 2, kind.name(), Checks.STATE, star, kind.call());
            star.join(1, 2);
            Checks.due(kind.name() + " as call 512", kind.due(), () -> kind.call().run(star));
        }
        PairedEnds line = Graphs.star(4);
        line.part(0, 3);
        refuse(MOST_CALLS - CALLS_TO_MAKE - 3, "spoiler()", Checks.STATE, line, PairedEnds::spoiler);
        line.join(0, 3);
        Checks.due("spoiler() as call 512", 15, line::spoiler);
    }

    private static void refuse(int times, String name, String want, PairedEnds graph, Refusals.CallOn call) {
        for (int time = 0; time < times; time++) {
            Checks.due(name + " refused", want, () -> call.run(graph));
        }
    }

    private static void numbersOfVertices() {
        PairedEnds graph = new PairedEnds();
        for (int n = 1; n <= 8; n++) {
            graph.grow();
            int last = n - 1;
            int next = n;
            Checks.due("leader(0) of " + n, 0, () -> graph.leader(0));
            Checks.due("leader(n - 1) of " + n, last, () -> graph.leader(last));
            Checks.due("leader(-1) of " + n, Checks.NO_VERTEX, () -> graph.leader(-1));
            Checks.due("leader(n) of " + n, Checks.NO_VERTEX, () -> graph.leader(next));
        }
        Checks.due("a ninth", Checks.STATE, graph::grow);
        Checks.due("vertices()", 8, graph::vertices);
    }

    private static void oneEdgeBetweenTwo() {
        PairedEnds graph = Graphs.made(8, 0, 7, 7, 0, 0, 7);
        Checks.due("edges()", 1, graph::edges);
        Checks.due("adjacent(0, 7)", true, () -> graph.adjacent(0, 7));
        Checks.due("adjacent(7, 0)", true, () -> graph.adjacent(7, 0));
        graph.part(7, 0);
        Checks.due("edges() after one part", 0, graph::edges);
        Checks.due("adjacent(0, 7) after one part", false, () -> graph.adjacent(0, 7));
    }

    private static void setsFromEmptyToFull() {
        Checks.due("apart() of none", 0, () -> new PairedEnds().apart());
        Checks.due("apart() of one", 1, () -> Graphs.made(1).apart());
        for (int n = 1; n <= 8; n++) {
            int all = (1 << n) - 1;
            Checks.due("apart() of " + n, all, () -> Graphs.made(Integer.bitCount(all)).apart());
            Checks.due("close() of " + n, all, () -> Graphs.full(Integer.bitCount(all)).close());
        }
        Checks.due("spoiler() with the last four", 16 + 32 + 64 + 128,
                () -> Graphs.made(8, 4, 5, 4, 6, 4, 7).spoiler());
    }

    /** The sets of two are 0 and 3, as 9, or 1 and 2, as 6: that with the vertex 0 is not the less. */
    private static void lessIsByNumber() {
        Checks.due("apart()", 6, () -> Graphs.made(4, 0, 1, 1, 3, 3, 2, 2, 0).apart());
        Checks.due("close()", 6, () -> Graphs.made(4, 0, 3, 1, 2).close());
        Checks.due("apart() of eight", 2 + 4 + 8 + 16, () -> fullHalves(0, 5, 6, 7).apart());
        Checks.due("close() of eight", 2 + 4 + 8 + 16, () -> halves(0, 5, 6, 7).close());
    }

    /** Two are adjacent when both are of the given four or both are not. */
    private static PairedEnds halves(int... four) {
        PairedEnds graph = Graphs.made(8);
        List<Integer> chosen = new ArrayList<>();
        for (int v : four) {
            chosen.add(v);
        }
        for (int v = 0; v < 8; v++) {
            for (int u = 0; u < v; u++) {
                if (chosen.contains(u) == chosen.contains(v)) {
                    graph.join(u, v);
                }
            }
        }
        return graph;
    }

    /** Two are adjacent when they are not so in halves. */
    private static PairedEnds fullHalves(int... four) {
        PairedEnds halves = halves(four);
        PairedEnds graph = Graphs.made(8);
        for (int v = 0; v < 8; v++) {
            for (int u = 0; u < v; u++) {
                if (!halves.adjacent(u, v)) {
                    graph.join(u, v);
                }
            }
        }
        return graph;
    }

    private static void pairsStartFromNought() {
        for (int n = 1; n <= 8; n++) {
            for (PairedEnds graph : List.of(Graphs.made(n), Graphs.path(n), Graphs.full(n))) {
                Checks.due("low(0) of " + n, 0, () -> graph.low(0));
                Checks.due("high(0) of " + n, 1, () -> graph.high(0));
            }
        }
    }

    /** With one pair twice, the first of these would have a naming: 0 1, 2 3 and 0 2, 0 3, 0 2. */
    private static void noPairTwice() {
        PairedEnds nearlyFull = Graphs.full(5);
        nearlyFull.part(0, 1);
        Checks.due("isLine() of five close but for one edge", false, nearlyFull::isLine);
        PairedEnds two = Graphs.full(2);
        Checks.due("high(0) of two close", 1, () -> two.high(0));
        Checks.due("high(1) of two close", 2, () -> two.high(1));
        for (PairedEnds graph : lineGraphs()) {
            eachTwoPairs(graph, false);
        }
    }

    private static void commonNumbersAreEdges() {
        for (PairedEnds graph : lineGraphs()) {
            eachTwoPairs(graph, true);
        }
    }

    private static void eachTwoPairs(PairedEnds graph, boolean byEdges) {
        for (int v = 0; v < graph.vertices(); v++) {
            for (int u = 0; u < v; u++) {
                int one = 1 << graph.low(u) | 1 << graph.high(u);
                int other = 1 << graph.low(v) | 1 << graph.high(v);
                boolean edge = graph.adjacent(u, v);
                if (byEdges) {
                    Checks.due("a number in common of " + u + " and " + v, edge, () -> (one & other) != 0);
                } else {
                    Checks.due("the same pair of " + u + " and " + v, false, () -> one == other);
                }
            }
        }
    }

    private static List<PairedEnds> lineGraphs() {
        List<PairedEnds> graphs = new ArrayList<>();
        for (int n = 1; n <= 8; n++) {
            graphs.add(Graphs.made(n));
            graphs.add(Graphs.full(n));
            graphs.add(Graphs.path(n));
        }
        graphs.add(Graphs.cycle(4));
        graphs.add(Graphs.cycle(8));
        graphs.add(Graphs.eightOfFiveEnds());
        return graphs;
    }

    private static void emptySetIsALineSet() {
        for (PairedEnds graph : List.of(new PairedEnds(), Graphs.emptied())) {
            Checks.due("isLine()", true, graph::isLine);
            Checks.due("ends()", 0, graph::ends);
            Checks.due("spoiler()", Checks.STATE, graph::spoiler);
            Checks.due("loose()", 0, graph::loose);
            Checks.due("barrier()", 0, graph::barrier);
        }
    }

    private static void leastRow() {
        // Both a star and a triangle are roots of three close vertices: 0 1, 0 2, 0 3 is less than .. 1 2.
        Checks.due("low(2) of three close", 0, () -> Graphs.full(3).low(2));
        Checks.due("high(2) of three close", 3, () -> Graphs.full(3).high(2));
        // What comes later can rule the lesser beginning out: here only the triangle can be gone on with.
        PairedEnds forced = Graphs.made(5, 0, 1, 0, 2, 1, 2, 3, 0, 3, 1, 4, 3);
        Checks.due("low(2) where a star will not do", 1, () -> forced.low(2));
        Checks.due("high(2) where a star will not do", 2, () -> forced.high(2));
        // Of the two numbers of each vertex that it is beside, vertex 3 takes the lesser one.
        PairedEnds late = Graphs.made(4, 0, 3, 1, 3);
        Checks.due("low(3) beside 0 and 1", 0, () -> late.low(3));
        Checks.due("high(3) beside 0 and 1", 2, () -> late.high(3));
        Checks.due("low(2) beside none", 4, () -> late.low(2));
    }

    private static void endsAreTheNumbersUsed() {
        for (PairedEnds graph : lineGraphs()) {
            int used = 0;
            for (int v = 0; v < graph.vertices(); v++) {
                used |= 1 << graph.low(v) | 1 << graph.high(v);
            }
            Checks.due("ends()", Integer.bitCount(used), graph::ends);
        }
        Checks.due("ends() of eight apart, the most", 16, () -> Graphs.made(8).ends());
        Checks.due("ends() of eight with five ends, the fewest", 5, () -> Graphs.eightOfFiveEnds().ends());
    }

    /** The last two of eight are adjacent: their pairs are 12 13 and 12 14. */
    private static void setsOfEnds() {
        PairedEnds graph = Graphs.made(8, 6, 7);
        Checks.due("ends()", 15, graph::ends);
        Checks.due("loose()", (1 << 13) + (1 << 14), graph::loose);
        Checks.due("barrier()", 1 << 12, graph::barrier);
        Checks.due("loose() of none", 0, () -> new PairedEnds().loose());
    }

    /** A set of one vertex has no two, so it is both apart and close; so is the empty set. */
    private static void setsWithoutTwo() {
        Checks.due("apart() of none", 0, () -> new PairedEnds().apart());
        Checks.due("close() of none", 0, () -> new PairedEnds().close());
        for (int n = 1; n <= 8; n++) {
            PairedEnds full = Graphs.full(n);
            PairedEnds bare = Graphs.made(n);
            Checks.due("apart() of " + n + " close", 1, full::apart);
            Checks.due("close() of " + n + " apart", 1, bare::close);
        }
    }

    private static void onlyGreatestSetsMakeLoose() {
        // The middle vertex alone is apart and can get no other, but it is not of the greatest size.
        Checks.due("loose() of a path of three", 0, () -> Graphs.path(3).loose());
        // Each vertex alone is a set of the greatest size, and misses every end but its own two.
        Checks.due("loose() of eight close", 511 - 1, () -> Graphs.full(8).loose());
        Checks.due("loose() of two close", 2 + 4, () -> Graphs.full(2).loose());
        Checks.due("loose() of one", 0, () -> Graphs.made(1).loose());
        Checks.due("loose() of a cycle of seven", 127, () -> Graphs.cycle(7).loose());
        Checks.due("loose() of a cycle of eight", 0, () -> Graphs.cycle(8).loose());
    }

    private static void barrierIsBesideLoose() {
        Checks.due("barrier() of eight close", 1, () -> Graphs.full(8).barrier());
        Checks.due("barrier() where all ends are loose", 0, () -> Graphs.cycle(7).barrier());
        Checks.due("barrier() where none is", 0, () -> Graphs.cycle(8).barrier());
        // The ends 3 and 4 of vertex 2 are not loose, and no pair has one of them and a loose one.
        Checks.due("barrier() of two close and one apart", 1, () -> Graphs.made(3, 0, 1).barrier());
        Checks.due("barrier() of two times two close", 1 + 8, () -> Graphs.made(4, 0, 1, 2, 3).barrier());
    }

    private static void firstInTheListIsThrown() {
        for (int wrong : Refusals.noVertices(4)) {
            Refusals.due("join(w, w) with " + wrong, Checks.NO_VERTEX, () -> Graphs.path(4),
                    graph -> graph.join(wrong, wrong));
            Refusals.due("part(w, w) with " + wrong, Checks.NO_VERTEX, () -> Graphs.path(4),
                    graph -> graph.part(wrong, wrong));
            Refusals.due("low(w) with " + wrong, Checks.NO_VERTEX, () -> Graphs.star(4), graph -> graph.low(wrong));
            Refusals.due("high(w) with " + wrong, Checks.NO_VERTEX, () -> Graphs.star(4), graph -> graph.high(wrong));
        }
    }

    private static void everyNumberIsLookedAt() {
        for (int wrong : new int[] {-1, 8}) {
            PairedEnds graph = Graphs.path(8);
            Checks.due("join(" + wrong + ", 0)", Checks.NO_VERTEX, () -> graph.join(wrong, 0));
            Checks.due("join(0, " + wrong + ")", Checks.NO_VERTEX, () -> graph.join(0, wrong));
            Checks.due("part(" + wrong + ", 1)", Checks.NO_VERTEX, () -> graph.part(wrong, 1));
            Checks.due("part(1, " + wrong + ")", Checks.NO_VERTEX, () -> graph.part(1, wrong));
            Checks.due("adjacent(" + wrong + ", 2)", Checks.NO_VERTEX, () -> graph.adjacent(wrong, 2));
            Checks.due("adjacent(2, " + wrong + ")", Checks.NO_VERTEX, () -> graph.adjacent(2, wrong));
            Checks.due("leader(" + wrong + ")", Checks.NO_VERTEX, () -> graph.leader(wrong));
            Checks.due("low(" + wrong + ")", Checks.NO_VERTEX, () -> graph.low(wrong));
            Checks.due("high(" + wrong + ")", Checks.NO_VERTEX, () -> graph.high(wrong));
        }
    }

    /** Only the two calls that name it; adjacent asks of a vertex and itself without any harm. */
    private static void twoVerticesThatAreOne() {
        for (int n = 1; n <= 8; n++) {
            int last = n - 1;
            PairedEnds graph = Graphs.full(n);
            Checks.due("join(v, v) of " + n, Checks.ONE_VERTEX, () -> graph.join(last, last));
            Checks.due("part(v, v) of " + n, Checks.ONE_VERTEX, () -> graph.part(last, last));
            Checks.due("adjacent(v, v) of " + n, false, () -> graph.adjacent(last, last));
        }
    }

    private static void refusedCallsInARow() {
        for (int n = 0; n <= 8; n++) {
            refuseAll("a path of " + n, Graphs.path(n), Graphs.path(n));
            refuseAll("a star of " + n, Graphs.star(n), Graphs.star(n));
            refuseAll("all edges of " + n, Graphs.full(n), Graphs.full(n));
        }
    }

    private static void refuseAll(String name, PairedEnds graph, PairedEnds untouched) {
        for (Checks.Call call : refusals(graph, graph.vertices())) {
            String answer = Checks.outcome(call);
            if (!Checks.due("a call that " + name + " must refuse throws", true, () -> answer.startsWith("throws."))) {
                return;
            }
        }
        Checks.same(name + " after all that was refused", Answers.nowAndLater(graph), Answers.nowAndLater(untouched));
    }

    private static List<Checks.Call> refusals(PairedEnds graph, int n) {
        List<Checks.Call> calls = new ArrayList<>();
        for (int wrong : new int[] {-1, n, 32}) {
            calls.add(() -> graph.join(wrong, 0));
            calls.add(() -> graph.join(0, wrong));
            calls.add(() -> graph.part(wrong, 0));
            calls.add(() -> graph.part(0, wrong));
            calls.add(() -> graph.adjacent(wrong, 0));
            calls.add(() -> graph.adjacent(0, wrong));
            calls.add(() -> graph.leader(wrong));
            calls.add(() -> graph.low(wrong));
            calls.add(() -> graph.high(wrong));
        }
        for (int v = 0; v < n; v++) {
            int same = v;
            calls.add(() -> graph.join(same, same));
            calls.add(() -> graph.part(same, same));
        }
        if (n == 8) {
            calls.add(graph::grow);
        }
        if (n == 0) {
            calls.add(() -> Graphs.shrunk(graph));
        }
        if (graph.isLine()) {
            calls.add(graph::spoiler);
        } else {
            calls.add(graph::ends);
            calls.add(() -> graph.low(0));
            calls.add(() -> graph.high(0));
            calls.add(graph::loose);
            calls.add(graph::barrier);
        }
        return calls;
    }
}
