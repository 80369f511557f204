/** Every graph with up to six vertices, and of those with seven whether they are line graphs. */
public final class SmallGraphsTest {
    public static void main(String[] args) {
        anyNumbersNameNoBetter();
        for (int n = 0; n <= 6; n++) {
            for (int code = 0; code < 1 << n * (n - 1) / 2; code++) {
                Twins.ofCode(n, code).askAll();
            }
        }
        lineGraphsWithSeven();
        Checks.finish();
    }

    /** The table of namings rests on this: a new number is always the next unused one. */
    private static void anyNumbersNameNoBetter() {
        for (int n = 0; n <= 4; n++) {
            int vertices = n;
            Checks.due("namings of " + n + " vertices", Namings.of(n).rows(),
                    () -> Namings.withAnyNumbers(vertices).rows());
        }
    }

    /** Goes from graph to graph by one edge, in the order of the Gray code. */
    private static void lineGraphsWithSeven() {
        PairedEnds graph = Graphs.made(7);
        int code = 0;
        for (int step = 1; step < 1 << 21; step++) {
            int changed = Integer.lowestOneBit(step);
            code ^= changed;
            Graphs.turn(graph, changed, (code & changed) != 0);
            boolean line = Namings.of(7).isLine(code);
            Checks.same("isLine() of " + code, String.valueOf(graph.isLine()), String.valueOf(line));
        }
    }
}
