import java.util.Map;
import java.util.Random;

/** Two numbers of the naming of every line graph with eight vertices; graphs and runs of calls by chance. */
public final class EightVerticesTest {
    private static final int GRAPHS = 6000;
    private static final int RUNS = 300;
    private static final int CALLS_OF_A_RUN = 512;

    /** The seed is fixed, so every run of the test looks at the same graphs. */
    private static final Random CHANCE = new Random(20261115);

    public static void main(String[] args) {
        everyLineGraphWithEight();
        graphsByChance();
        lineGraphsByChance();
        runsByChance();
        Checks.finish();
    }

    private static void everyLineGraphWithEight() {
        for (Map.Entry<Integer, Long> entry : Namings.of(8).rows().entrySet()) {
            PairedEnds graph = Graphs.ofCode(8, entry.getKey());
            // Every call searches anew, and there are millions: one low by turns and the last high will do.
            int v = entry.getKey() % 8;
            Checks.due("low(" + v + ") of " + entry.getKey(), Namings.low(entry.getValue(), v), () -> graph.low(v));
            Checks.due("high(7) of " + entry.getKey(), Namings.high(entry.getValue(), 7), () -> graph.high(7));
        }
    }

    private static void graphsByChance() {
        for (int i = 0; i < GRAPHS; i++) {
            int n = 7 + i % 2;
            Twins.ofCode(n, someCode(1 << n * (n - 1) / 2, i % 3)).askAll();
        }
    }

    /** By the kind with few edges, with many or with about half of all. */
    private static int someCode(int bound, int kind) {
        int one = CHANCE.nextInt(bound);
        int other = CHANCE.nextInt(bound);
        return kind == 0 ? one & other : kind == 1 ? one | other : one;
    }

    private static void lineGraphsByChance() {
        int some = 0;
        for (int code : Namings.of(8).rows().keySet()) {
            if (some++ % 1000 == 0) {
                Twins.ofCode(8, code).askAll();
            }
        }
    }

    private static void runsByChance() {
        for (int run = 0; run < RUNS; run++) {
            Twins twins = new Twins();
            for (int call = 0; call < CALLS_OF_A_RUN; call++) {
                someCall(twins);
            }
        }
    }

    private static void someCall(Twins twins) {
        int u = someNumber(twins.vertices());
        int v = someNumber(twins.vertices());
        switch (CHANCE.nextInt(16)) {
            case 0, 1 -> twins.grow();
            case 2 -> twins.shrink();
            case 3, 4, 5, 6 -> twins.join(u, v);
            case 7, 8 -> twins.part(u, v);
            case 9 -> twins.adjacent(u, v);
            case 10 -> twins.leader(u);
            case 11, 12 -> twins.low(u);
            case 13, 14 -> twins.high(u);
            default -> twins.ask();
        }
    }

    /** Mostly a vertex, now and then a number that is none. */
    private static int someNumber(int n) {
        int[] none = {-1, n, n + 1, 8, 32, Integer.MIN_VALUE, Integer.MAX_VALUE};
        return n == 0 || CHANCE.nextInt(20) == 0 ? none[CHANCE.nextInt(none.length)] : CHANCE.nextInt(n);
    }
}
