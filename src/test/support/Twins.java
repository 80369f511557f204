/** A PairedEnds and a Model that get the same calls, and must give the same answers. */
final class Twins {
    private final PairedEnds real = new PairedEnds();
    private final Model model = new Model();
    private final StringBuilder calls = new StringBuilder();
    private boolean alike = true;

    /** After the first difference nothing more is asked: all that follows would differ by it alone. */
    void compare(String call, Checks.Call onReal, Checks.Call onModel) {
        calls.append(' ').append(call);
        alike = alike && Checks.same(calls, Checks.outcome(onReal), Checks.outcome(onModel));
    }

    void grow() {
        compare("grow()", real::grow, model::grow);
    }

    void shrink() {
        compare("shrink()", () -> Graphs.shrunk(real), () -> {
            model.shrink();
            return "nothing";
        });
    }

    void join(int u, int v) {
        compare("join(" + u + "," + v + ")", () -> real.join(u, v), () -> model.join(u, v));
    }

    void part(int u, int v) {
        compare("part(" + u + "," + v + ")", () -> real.part(u, v), () -> model.part(u, v));
    }

    void adjacent(int u, int v) {
        compare("adjacent(" + u + "," + v + ")", () -> real.adjacent(u, v), () -> model.adjacent(u, v));
    }

    void leader(int v) {
        compare("leader(" + v + ")", () -> real.leader(v), () -> model.leader(v));
    }

    void low(int v) {
        compare("low(" + v + ")", () -> real.low(v), () -> model.low(v));
    }

    void high(int v) {
        compare("high(" + v + ")", () -> real.high(v), () -> model.high(v));
    }

    /** The calls without arguments that only answer. */
    void ask() {
        compare("vertices()", real::vertices, model::vertices);
        compare("edges()", real::edges, model::edges);
        compare("isLine()", real::isLine, model::isLine);
        compare("ends()", real::ends, model::ends);
        compare("spoiler()", real::spoiler, model::spoiler);
        compare("apart()", real::apart, model::apart);
        compare("close()", real::close, model::close);
        compare("loose()", real::loose, model::loose);
        compare("barrier()", real::barrier, model::barrier);
    }

    /** Every call that only answers, with every vertex and the two numbers just outside. */
    void askAll() {
        int n = model.vertices();
        ask();
        for (int v = -1; v <= n; v++) {
            leader(v);
            low(v);
            high(v);
            for (int u = -1; u <= n; u++) {
                adjacent(u, v);
            }
        }
    }

    int vertices() {
        return model.vertices();
    }

    /** A new pair with the graph of the code; see Namings. */
    static Twins ofCode(int n, int code) {
        Twins twins = new Twins();
        for (int v = 0; v < n; v++) {
            twins.grow();
        }
        for (int v = 0; v < n; v++) {
            for (int u = 0; u < v; u++) {
                if ((code & Namings.bit(u, v)) != 0) {
                    twins.join(u, v);
                }
            }
        }
        return twins;
    }
}
