import java.util.Arrays;
import java.util.HashMap;
import java.util.Map;
import java.util.Random;

/** Long runs of calls, drawn from fixed seeds: SpinBench and the slow Model must answer alike. */
public final class ModelTest {
    private static final String[] CALLS = {
        "table", "set", "copy", "drop", "clear", "add", "take", "join", "quarter", "letter", "terms", "number", "power",
        "same", "product", "digest", "pulse", "cycled", "delay", "round", "end", "store", "back", "kind", "is", "spins",
        "ask", "trace", "run", "told", "count", "status"};
    /** How often each call comes, by the run's manner: mixed, sums, programs, wrong and edgy numbers. */
    private static final int[][] WEIGHTS = {
        {3, 4, 2, 1, 1, 5, 2, 3, 4, 5, 1, 2, 2, 1, 2, 2, 3, 4, 3, 3, 5, 3, 3, 1, 1, 2, 3, 3, 5, 2, 2, 3},
        {0, 0, 0, 0, 1, 12, 4, 8, 8, 16, 1, 1, 1, 2, 6, 3, 0, 0, 0, 0, 0, 0, 0, 0, 0, 0, 0, 0, 0, 0, 1, 0},
        {4, 6, 2, 1, 1, 3, 1, 1, 1, 1, 1, 1, 1, 1, 1, 2, 6, 9, 6, 6, 9, 6, 3, 1, 1, 2, 3, 3, 12, 4, 2, 3},
        {3, 3, 3, 3, 3, 3, 3, 3, 3, 3, 3, 3, 3, 3, 3, 3, 3, 3, 3, 3, 3, 3, 3, 3, 3, 3, 3, 3, 3, 3, 3, 3}};
    private static final int RUNS = 240;
    private static final int CALLS_OF_A_RUN = 512;

    private static final Due due = new Due("ModelTest");
    private static final Map<String, Integer> refusals = new HashMap<>();

    public static void main(String[] args) {
        for (int run = 0; run < RUNS && due.wrong() == 0; run++) {
            new ModelTest(run).play();
        }
        int enough = 5;
        for (String seen : new String[] {"run -1000003", "run -1000011", "run -1000012", "run -1000002",
            "letter -1000003", "product -1000003", "join -1000003", "add -1000003", "copy -1000015", "copy -1000012"}) {
            due.holds("the runs came to " + seen + " often enough", refusals.getOrDefault(seen, 0) >= enough);
        }
        due.end();
    }

    private final int seed;
    private final Random random;
    private final int manner;
    private final int spins;
    private final SpinBench bench;
    private final Model model;

    private ModelTest(int seed) {
        this.seed = seed;
        random = new Random(seed * 7919L + 13);
        manner = seed % WEIGHTS.length;
        int asked = random.nextInt(6);
        spins = Math.max(1, Math.min(4, asked));
        bench = new SpinBench(asked);
        model = new Model(asked);
    }

    private void play() {
        for (int i = 0; i < CALLS_OF_A_RUN && due.wrong() == 0; i++) {
            String call = drawCall();
            int[] a = drawArguments(call);
            long got = Calls.answer(bench, call, a);
            long want = Calls.answer(model, call, a);
            if (want <= -1000000 && want >= -1000020) {
                refusals.merge(call + " " + want, 1, Integer::sum);
            }
            due.is("run " + seed + " call " + i + " " + call + Arrays.toString(a), got, want);
            compareStates(seed, i, call);
        }
    }

    private void compareStates(int run, int i, String call) {
        for (int shelf = -1; shelf < 8; shelf++) {
            due.is("run " + run + " after call " + i + " " + call + " digest(" + shelf + ")",
                    bench.digest(shelf), model.digest(shelf));
        }
        due.is("run " + run + " after call " + i + " " + call + " status", bench.status(), model.status());
        for (int what = 0; what < 2; what++) {
            due.is("run " + run + " after call " + i + " " + call + " told", bench.told(what), model.told(what));
        }
        for (int what = 0; what < 5; what++) {
            due.is("run " + run + " after call " + i + " " + call + " count", bench.count(what), model.count(what));
        }
    }

    private String drawCall() {
        int all = 0;
        for (int weight : WEIGHTS[manner]) {
            all += weight;
        }
        int drawn = random.nextInt(all);
        int at = 0;
        while (drawn >= WEIGHTS[manner][at]) {
            drawn -= WEIGHTS[manner][at];
            at++;
        }
        return CALLS[at];
    }

    /** A number from least to most; now and then, and often in the last manner, one beyond. */
    private int draw(int least, int most) {
        int odds = manner == 3 ? 6 : 60;
        if (random.nextInt(odds) == 0) {
            int[] edges = {least - 1, most + 1, Integer.MIN_VALUE, Integer.MAX_VALUE, -1, 61, least, most};
            return edges[random.nextInt(edges.length)];
        }
        return least + random.nextInt(most - least + 1);
    }

    private int drawProduct() {
        // Few PRODUCTS and few TABLES meet again more often.
        return random.nextInt(3) == 0 ? draw(0, 3) : draw(0, (1 << 2 * spins) - 1);
    }

    private int drawTable() {
        return random.nextInt(2) == 0 ? draw(0, 1) : draw(0, 7);
    }

    private int drawNumber() {
        int[] numbers = {1, -1, 2, -3, 1000000, 1000001, 999999999, Integer.MAX_VALUE, Integer.MIN_VALUE, 0};
        return random.nextInt(3) == 0 ? numbers[random.nextInt(numbers.length)] : draw(-4, 4);
    }

    private int drawWay() {
        return random.nextInt(30) == 0 ? draw(-2, 2) : random.nextInt(3) == 0 ? -1 : 1;
    }

    private int drawItem() {
        return random.nextInt(4) == 0 ? random.nextInt() : draw(-5, 300);
    }

    private int[] drawArguments(String call) {
        switch (call) {
            case "table":
                return new int[] {drawTable(), draw(0, 2), draw(0, random.nextInt(3) == 0 ? 60 : 9)};
            case "set":
                return new int[] {drawTable(), draw(0, 9), drawItem()};
            case "copy":
                return new int[] {drawTable(), draw(0, 4), drawTable(), draw(0, 4), draw(0, 4)};
            case "drop":
                return new int[] {drawTable()};
            case "clear":
            case "terms":
            case "digest":
                return new int[] {draw(-1, 7)};
            case "add":
                return new int[] {draw(-1, manner == 1 ? 1 : 7), drawProduct(), drawNumber()};
            case "take":
            case "same":
                return new int[] {draw(-1, 7), draw(-1, 7)};
            case "join":
                return new int[] {draw(-1, 3), draw(-1, 3), draw(-3, 3)};
            case "quarter":
                return new int[] {drawProduct(), draw(0, 3)};
            case "letter":
            case "delay":
                return new int[] {drawProduct(), draw(0, random.nextInt(2) == 0 ? 0 : 3), drawWay()};
            case "number":
                return new int[] {draw(-1, 7), draw(0, 5)};
            case "power":
                return new int[] {draw(-1, 7), draw(0, 5), draw(-1, 7)};
            case "product":
                return new int[] {draw(-1, 7), draw(-1, 3), draw(-1, 3)};
            case "pulse":
                return new int[] {draw(1, (1 << spins) - 1), draw(0, 3), draw(0, 3)};
            case "cycled":
                return new int[] {draw(1, (1 << spins) - 1), draw(0, 3), draw(0, 3), drawTable()};
            case "round":
                return new int[] {draw(1, 8)};
            case "store":
                return new int[] {draw(0, 7), draw(-3, 3)};
            case "is":
                return new int[] {drawOp(), draw(0, 7)};
            case "kind":
            case "spins":
                return new int[] {drawOp()};
            case "ask":
                return new int[] {drawOp(), draw(0, 1)};
            case "trace":
                return new int[] {draw(0, 5)};
            case "told":
                return new int[] {draw(0, 1)};
            case "count":
                return new int[] {draw(0, 4)};
            default:
                return new int[0];
        }
    }

    private int drawOp() {
        return draw(0, Math.max(0, model.count(1) - 1));
    }
}
