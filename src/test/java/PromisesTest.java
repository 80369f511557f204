/** The promises one by one, with answers worked out by hand from the document. */
public final class PromisesTest {
    private static final String NO_VERTEX = Checks.NO_VERTEX;
    private static final String ONE_VERTEX = Checks.ONE_VERTEX;
    private static final String STATE = Checks.STATE;

    private static final int[] WRONG = {-1, 4, 8, 32, -32, Integer.MIN_VALUE, Integer.MAX_VALUE};

    public static void main(String[] args) {
        promise1NewObject();
        promise2Grow();
        promise3Shrink();
        promise4Join();
        promise5Part();
        promise6Adjacent();
        promise7Vertices();
        promise8Edges();
        promise9Leader();
        promise10IsLine();
        promise11Ends();
        promises12And13LowAndHigh();
        promise14Spoiler();
        promise15Apart();
        promise16Close();
        promise17Loose();
        promise18Barrier();
        objectsAreStrangers();
        Checks.finish();
    }

    private static void promise1NewObject() {
        PairedEnds graph = new PairedEnds();
        Checks.due("1: vertices()", 0, graph::vertices);
        Checks.due("1: edges()", 0, graph::edges);
        Checks.due("1: isLine()", true, graph::isLine);
        Checks.due("1: ends()", 0, graph::ends);
        Checks.due("1: spoiler()", STATE, graph::spoiler);
        Checks.due("1: apart()", 0, graph::apart);
        Checks.due("1: close()", 0, graph::close);
        Checks.due("1: loose()", 0, graph::loose);
        Checks.due("1: barrier()", 0, graph::barrier);
        Checks.due("1: adjacent(0, 0)", NO_VERTEX, () -> graph.adjacent(0, 0));
        Checks.due("1: join(0, 0)", NO_VERTEX, () -> graph.join(0, 0));
        Checks.due("1: low(0)", NO_VERTEX, () -> graph.low(0));
    }

    private static void promise2Grow() {
        PairedEnds graph = new PairedEnds();
        for (int v = 0; v < 8; v++) {
            Checks.due("2: grow()", v, graph::grow);
            Checks.due("2: edges()", 0, graph::edges);
            Checks.due("2: vertices()", v + 1, graph::vertices);
        }
        graph.join(6, 7);
        Checks.due("2: grow() with 8", STATE, graph::grow);
        Checks.due("2: vertices() after the throw", 8, graph::vertices);
        Checks.due("2: edges() after the throw", 1, graph::edges);
        graph.shrink();
        Checks.due("2: grow() again", 7, graph::grow);
        Checks.due("2: the old edge is gone", false, () -> graph.adjacent(6, 7));
        Checks.due("2: and from the other side", false, () -> graph.adjacent(7, 6));
    }

    private static void promise3Shrink() {
        PairedEnds graph = Graphs.full(3);
        Checks.due("3: shrink()", "nothing", () -> Graphs.shrunk(graph));
        Checks.due("3: vertices()", 2, graph::vertices);
        Checks.due("3: edges()", 1, graph::edges);
        Checks.due("3: adjacent(0, 1)", true, () -> graph.adjacent(0, 1));
        Checks.due("3: adjacent(0, 2)", NO_VERTEX, () -> graph.adjacent(0, 2));
        Checks.due("3: shrink()", "nothing", () -> Graphs.shrunk(graph));
        Checks.due("3: shrink()", "nothing", () -> Graphs.shrunk(graph));
        Checks.due("3: shrink() with none", STATE, () -> Graphs.shrunk(graph));
        Checks.due("3: vertices() after the throw", 0, graph::vertices);
        Checks.due("3: grow() after the throw", 0, graph::grow);
    }

    private static void promise4Join() {
        PairedEnds graph = Graphs.made(4);
        Checks.due("4: join(0, 3)", true, () -> graph.join(0, 3));
        Checks.due("4: join(0, 3) again", false, () -> graph.join(0, 3));
        Checks.due("4: join(3, 0)", false, () -> graph.join(3, 0));
        Checks.due("4: adjacent(3, 0)", true, () -> graph.adjacent(3, 0));
        for (int wrong : WRONG) {
            Checks.due("4: join(1, wrong)", NO_VERTEX, () -> graph.join(1, wrong));
            Checks.due("4: join(wrong, 1)", NO_VERTEX, () -> graph.join(wrong, 1));
            Checks.due("4: join(wrong, wrong)", NO_VERTEX, () -> graph.join(wrong, wrong));
        }
        Checks.due("4: join(2, 2)", ONE_VERTEX, () -> graph.join(2, 2));
        Checks.due("4: edges() after the throws", 1, graph::edges);
        Checks.due("4: adjacent(2, 2) after the throws", false, () -> graph.adjacent(2, 2));
    }

    private static void promise5Part() {
        PairedEnds graph = Graphs.full(4);
        Checks.due("5: part(0, 3)", true, () -> graph.part(0, 3));
        Checks.due("5: part(0, 3) again", false, () -> graph.part(0, 3));
        Checks.due("5: part(3, 0)", false, () -> graph.part(3, 0));
        Checks.due("5: adjacent(3, 0)", false, () -> graph.adjacent(3, 0));
        for (int wrong : WRONG) {
            Checks.due("5: part(1, wrong)", NO_VERTEX, () -> graph.part(1, wrong));
            Checks.due("5: part(wrong, 1)", NO_VERTEX, () -> graph.part(wrong, 1));
            Checks.due("5: part(wrong, wrong)", NO_VERTEX, () -> graph.part(wrong, wrong));
        }
        Checks.due("5: part(2, 2)", ONE_VERTEX, () -> graph.part(2, 2));
        Checks.due("5: edges() after the throws", 5, graph::edges);
        Checks.due("5: join(3, 0)", true, () -> graph.join(3, 0));
    }

    private static void promise6Adjacent() {
        PairedEnds graph = Graphs.made(4, 2, 1);
        Checks.due("6: adjacent(1, 2)", true, () -> graph.adjacent(1, 2));
        Checks.due("6: adjacent(2, 1)", true, () -> graph.adjacent(2, 1));
        Checks.due("6: adjacent(0, 1)", false, () -> graph.adjacent(0, 1));
        Checks.due("6: adjacent(1, 1)", false, () -> graph.adjacent(1, 1));
        for (int wrong : WRONG) {
            Checks.due("6: adjacent(1, wrong)", NO_VERTEX, () -> graph.adjacent(1, wrong));
            Checks.due("6: adjacent(wrong, 1)", NO_VERTEX, () -> graph.adjacent(wrong, 1));
        }
    }

    private static void promise7Vertices() {
        PairedEnds graph = Graphs.made(5);
        Checks.due("7: vertices()", 5, graph::vertices);
        graph.shrink();
        Checks.due("7: vertices() after shrink()", 4, graph::vertices);
        Checks.due("7: vertices() of eight", 8, () -> Graphs.full(8).vertices());
    }

    private static void promise8Edges() {
        Checks.due("8: edges() of none", 0, () -> Graphs.made(8).edges());
        Checks.due("8: edges() of a path", 7, () -> Graphs.path(8).edges());
        Checks.due("8: edges() of all", 28, () -> Graphs.full(8).edges());
        PairedEnds graph = Graphs.full(8);
        graph.shrink();
        Checks.due("8: edges() after shrink()", 21, graph::edges);
    }

    private static void promise9Leader() {
        PairedEnds graph = Graphs.made(8, 7, 4, 4, 6, 6, 2, 2, 5, 3, 1);
        int[] leaders = {0, 1, 2, 1, 2, 2, 2, 2};
        for (int v = 0; v < 8; v++) {
            int of = v;
            Checks.due("9: leader(" + v + ")", leaders[v], () -> graph.leader(of));
        }
        Checks.due("9: leader(7) along the longest way", 0, () -> Graphs.path(8).leader(7));
        for (int wrong : WRONG) {
            Checks.due("9: leader(wrong)", NO_VERTEX, () -> Graphs.path(4).leader(wrong));
        }
    }

    private static void promise10IsLine() {
        Checks.due("10: isLine() of eight apart", true, () -> Graphs.made(8).isLine());
        Checks.due("10: isLine() of eight close", true, () -> Graphs.full(8).isLine());
        Checks.due("10: isLine() of a cycle", true, () -> Graphs.cycle(8).isLine());
        Checks.due("10: isLine() of a star of three", true, () -> Graphs.star(3).isLine());
        Checks.due("10: isLine() of a star of four", false, () -> Graphs.star(4).isLine());
        // Five vertices all adjacent but for two: no other of the spoiling graphs is within it.
        PairedEnds nearlyFull = Graphs.full(5);
        nearlyFull.part(1, 3);
        Checks.due("10: isLine() of five close but for one edge", false, nearlyFull::isLine);
        Checks.due("10: isLine() of four close but for one edge", true, () -> {
            PairedEnds graph = Graphs.full(4);
            graph.part(0, 1);
            return graph.isLine();
        });
        PairedEnds wheel = Graphs.cycle(5);
        wheel.grow();
        for (int v = 0; v < 5; v++) {
            wheel.join(5, v);
        }
        Checks.due("10: isLine() of a wheel of five", false, wheel::isLine);
        wheel.shrink();
        Checks.due("10: isLine() of a cycle of five", true, wheel::isLine);
    }

    private static void promise11Ends() {
        Checks.due("11: ends() of eight apart", 16, () -> Graphs.made(8).ends());
        Checks.due("11: ends() of eight close", 9, () -> Graphs.full(8).ends());
        Checks.due("11: ends() of a path", 9, () -> Graphs.path(8).ends());
        Checks.due("11: ends() of a cycle", 8, () -> Graphs.cycle(8).ends());
        // Three close vertices have a star as well as a triangle for a root: the star's row is less.
        Checks.due("11: ends() of three close", 4, () -> Graphs.full(3).ends());
        Checks.due("11: ends() of one vertex", 2, () -> Graphs.made(1).ends());
        Checks.due("11: ends() of a star of four", STATE, () -> Graphs.star(4).ends());
        PairedEnds graph = Graphs.made(4);
        Checks.due("11: ends() of four apart", 8, graph::ends);
        graph.join(0, 1);
        Checks.due("11: ends() after join(0, 1)", 7, graph::ends);
        graph.shrink();
        Checks.due("11: ends() after shrink()", 5, graph::ends);
    }

    private static void promises12And13LowAndHigh() {
        checkNaming("none", Graphs.made(0));
        checkNaming("eight apart", Graphs.made(8), 0, 1, 2, 3, 4, 5, 6, 7, 8, 9, 10, 11, 12, 13, 14, 15);
        checkNaming("eight close", Graphs.full(8), 0, 1, 0, 2, 0, 3, 0, 4, 0, 5, 0, 6, 0, 7, 0, 8);
        checkNaming("a path", Graphs.path(4), 0, 1, 0, 2, 2, 3, 3, 4);
        checkNaming("a cycle", Graphs.cycle(4), 0, 1, 0, 2, 2, 3, 1, 3);
        checkNaming("three close", Graphs.full(3), 0, 1, 0, 2, 0, 3);
        // Vertex 3 is adjacent to 0 and 1 alone: with 0, 1 and 2 as a star it takes the pair 1 2.
        checkNaming("three close and one beside two", Graphs.made(4, 0, 1, 0, 2, 1, 2, 3, 0, 3, 1), 0, 1, 0, 2, 0, 3, 1, 2);
        checkNaming("three close, each two with one beside, these close too",
                Graphs.made(6, 0, 1, 0, 2, 1, 2, 3, 0, 3, 1, 4, 1, 4, 2, 5, 0, 5, 2, 3, 4, 3, 5, 4, 5),
                0, 1, 0, 2, 0, 3, 1, 2, 2, 3, 1, 3);
        // With 0, 1 and 2 as a star, vertex 4 could not be beside 3 alone: only a triangle will do.
        checkNaming("three close, one beside two, one beside that",
                Graphs.made(5, 0, 1, 0, 2, 1, 2, 3, 0, 3, 1, 4, 3), 0, 1, 0, 2, 1, 2, 0, 3, 3, 4);
        checkNaming("four close and one beside two of them",
                Graphs.made(5, 0, 1, 0, 2, 1, 2, 3, 0, 3, 1, 4, 0, 4, 1, 3, 4), 0, 1, 0, 2, 1, 2, 0, 3, 0, 4);
        checkNaming("two joined by the last", Graphs.made(3, 0, 2, 1, 2), 0, 1, 2, 3, 0, 2);
        PairedEnds star = Graphs.star(4);
        for (int v = 0; v < 4; v++) {
            int of = v;
            Checks.due("12: low(v) of a star of four", STATE, () -> star.low(of));
            Checks.due("13: high(v) of a star of four", STATE, () -> star.high(of));
        }
        for (int wrong : WRONG) {
            Checks.due("12: low(wrong) of a star of four", NO_VERTEX, () -> star.low(wrong));
            Checks.due("13: high(wrong) of a star of four", NO_VERTEX, () -> star.high(wrong));
            Checks.due("12: low(wrong) of a path", NO_VERTEX, () -> Graphs.path(4).low(wrong));
            Checks.due("13: high(wrong) of a path", NO_VERTEX, () -> Graphs.path(4).high(wrong));
        }
    }

    private static void checkNaming(String name, PairedEnds graph, int... row) {
        Checks.due("7: vertices() of " + name, row.length / 2, graph::vertices);
        for (int v = 0; v < row.length / 2; v++) {
            int of = v;
            Checks.due("12: low(" + v + ") of " + name, row[2 * v], () -> graph.low(of));
            Checks.due("13: high(" + v + ") of " + name, row[2 * v + 1], () -> graph.high(of));
        }
    }

    private static void promise14Spoiler() {
        Checks.due("14: spoiler() of a star of four", 15, () -> Graphs.star(4).spoiler());
        // Of a star of eight the first leaves that can go do so: the middle and the last three stay.
        Checks.due("14: spoiler() of a star of eight", 1 + 32 + 64 + 128, () -> Graphs.star(8).spoiler());
        PairedEnds late = Graphs.made(8, 7, 1, 7, 2, 7, 3, 0, 4);
        Checks.due("14: spoiler() with others beside", 2 + 4 + 8 + 128, late::spoiler);
        PairedEnds nearlyFull = Graphs.full(6);
        nearlyFull.part(1, 3);
        Checks.due("14: spoiler() of six close but for one edge", 2 + 4 + 8 + 16 + 32, nearlyFull::spoiler);
        Checks.due("14: spoiler() of a path", STATE, () -> Graphs.path(8).spoiler());
        Checks.due("14: spoiler() of none", STATE, () -> Graphs.made(0).spoiler());
        PairedEnds star = Graphs.star(5);
        star.spoiler();
        Checks.due("14: vertices() after spoiler()", 5, star::vertices);
        Checks.due("14: edges() after spoiler()", 4, star::edges);
    }

    private static void promise15Apart() {
        Checks.due("15: apart() of none", 0, () -> Graphs.made(0).apart());
        Checks.due("15: apart() of eight apart", 255, () -> Graphs.made(8).apart());
        Checks.due("15: apart() of eight close", 1, () -> Graphs.full(8).apart());
        Checks.due("15: apart() of a path of eight", 1 + 4 + 16 + 64, () -> Graphs.path(8).apart());
        Checks.due("15: apart() of a path of four", 1 + 4, () -> Graphs.path(4).apart());
        Checks.due("15: apart() of a star of eight", 254, () -> Graphs.star(8).apart());
    }

    private static void promise16Close() {
        Checks.due("16: close() of none", 0, () -> Graphs.made(0).close());
        Checks.due("16: close() of eight apart", 1, () -> Graphs.made(8).close());
        Checks.due("16: close() of eight close", 255, () -> Graphs.full(8).close());
        Checks.due("16: close() of a path", 3, () -> Graphs.path(8).close());
        Checks.due("16: close() of a star", 3, () -> Graphs.star(8).close());
        PairedEnds graph = Graphs.made(7, 0, 1, 2, 4, 4, 6, 6, 2, 3, 5, 5, 6, 6, 3);
        Checks.due("16: close() of two triangles", 4 + 16 + 64, graph::close);
    }

    private static void promise17Loose() {
        Checks.due("17: loose() of none", 0, () -> Graphs.made(0).loose());
        Checks.due("17: loose() of one vertex", 0, () -> Graphs.made(1).loose());
        Checks.due("17: loose() of eight apart", 0, () -> Graphs.made(8).loose());
        Checks.due("17: loose() of eight close", 511 - 1, () -> Graphs.full(8).loose());
        Checks.due("17: loose() of a cycle of five", 31, () -> Graphs.cycle(5).loose());
        Checks.due("17: loose() of a cycle of four", 0, () -> Graphs.cycle(4).loose());
        // The root of a path of four is one of five ends 1 0 2 3 4: its outer and its middle ones are loose.
        Checks.due("17: loose() of a path of four", 2 + 4 + 16, () -> Graphs.path(4).loose());
        Checks.due("17: loose() of a star of four", STATE, () -> Graphs.star(4).loose());
    }

    private static void promise18Barrier() {
        Checks.due("18: barrier() of none", 0, () -> Graphs.made(0).barrier());
        Checks.due("18: barrier() of eight apart", 0, () -> Graphs.made(8).barrier());
        Checks.due("18: barrier() of eight close", 1, () -> Graphs.full(8).barrier());
        Checks.due("18: barrier() of a cycle of five", 0, () -> Graphs.cycle(5).barrier());
        Checks.due("18: barrier() of a path of four", 1 + 8, () -> Graphs.path(4).barrier());
        // Vertex 2 has a root's edge of its own: its ends are neither loose nor beside a loose one.
        Checks.due("18: barrier() of two and one", 1, () -> Graphs.made(3, 0, 1).barrier());
        Checks.due("18: barrier() of a star of four", STATE, () -> Graphs.star(4).barrier());
    }

    private static void objectsAreStrangers() {
        PairedEnds one = Graphs.star(4);
        PairedEnds other = Graphs.path(4);
        Checks.due("isLine() of the one", false, one::isLine);
        Checks.due("isLine() of the other", true, other::isLine);
        one.part(0, 3);
        Checks.due("edges() of the other", 3, other::edges);
        Checks.due("ends() of the one", 6, one::ends);
        Checks.due("high(3) of the other", 4, () -> other.high(3));
    }
}
