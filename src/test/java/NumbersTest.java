import java.util.Arrays;

/**
 * "BAD (a number is not as told; there is no such thing)": of every call every number, the least and the greatest that
 * are as told, and those below and above them, on benches of one to four SPINS. What is refused changes nothing.
 */
public final class NumbersTest {
    private static final int BAD = SpinBench.BAD, NONE = SpinBench.NONE, PLACE = -1000012, SIZE = -1000014;
    private static final Due due = new Due("NumbersTest");

    /** One number of a call: what it may be, and what is answered below and above that. */
    private record Told(int least, int most, int below, int above) { }

    private final int spins;
    private final Look untouched;

    private NumbersTest(int spins) {
        this.spins = spins;
        untouched = Look.at(prepared());
    }

    public static void main(String[] args) {
        for (int spins = 1; spins <= 4; spins++) {
            NumbersTest test = new NumbersTest(spins);
            test.ofTables();
            test.ofSums();
            test.ofPrograms();
            test.ofWays();
        }
        due.end();
    }

    /** All TABLES have 60 ITEMS, all SUMS one TERM; there are three PULSES, a RUN of them, and an ASK of five BODIES. */
    private SpinBench prepared() {
        SpinBench x = new SpinBench(spins);
        for (int table = 0; table < 8; table++) {
            x.table(table, 2, 60);
        }
        for (int shelf = -1; shelf < 8; shelf++) {
            x.add(shelf, 1, 5);
        }
        for (int i = 0; i < 3; i++) {
            x.pulse(1, 0, 2);
        }
        x.run();
        x.ask(2, 1);
        return x;
    }

    private static Told bad(int least, int most) {
        return new Told(least, most, BAD, BAD);
    }

    private static Told place(int most) {
        return new Told(0, most, PLACE, PLACE);
    }

    private Told product() {
        return bad(0, (1 << 2 * spins) - 1);
    }

    private static Told shelf() {
        return bad(-1, 7);
    }

    private static Told table() {
        return bad(0, 7);
    }

    private static Told op() {
        return bad(0, 2);
    }

    private static Told any() {
        return null;
    }

    private static int[] of(int... numbers) {
        return numbers;
    }

    private void ofTables() {
        edges("table", of(0, 0, 5), table(), bad(0, 2), new Told(0, 60, SIZE, BAD));
        edges("set", of(0, 0, 1), table(), place(59), any());
        edges("copy", of(0, 0, 1, 0, 1), table(), place(59), table(), place(59), place(60));
        edges("drop", of(0), table());
    }

    private void ofSums() {
        edges("clear", of(0), shelf());
        edges("add", of(0, 1, 1), shelf(), product(), any());
        edges("take", of(0, 1), shelf(), shelf());
        edges("join", of(0, 1, 1), shelf(), shelf(), bad(-3, 3));
        edges("quarter", of(1, 1), product(), bad(0, 3));
        edges("letter", of(1, 0, 1), product(), bad(0, 3), bad(-1, 1));
        edges("terms", of(0), shelf());
        edges("number", of(0, 0), shelf(), bad(0, 0));
        edges("power", of(0, 0, 0), shelf(), bad(0, 0), bad(-1, 7));
        edges("same", of(0, 1), shelf(), shelf());
        edges("product", of(0, 1, 2), shelf(), shelf(), shelf());
        edges("digest", of(0), shelf());
    }

    private void ofPrograms() {
        Told set = bad(1, (1 << spins) - 1);
        edges("pulse", of(1, 0, 0), set, bad(0, 3), bad(0, 3));
        edges("cycled", of(1, 0, 0, 0), set, bad(0, 3), bad(0, 3), table());
        edges("delay", of(1, 0, 1), product(), bad(0, 3), bad(-1, 1));
        edges("round", of(1), bad(1, 8));
        edges("store", of(0, 1), bad(0, 7), bad(-3, 3));
        edges("kind", of(0), op());
        edges("is", of(0, 0), op(), bad(0, 7));
        edges("spins", of(0), op());
        edges("ask", of(0, 0), op(), bad(0, 1));
        edges("trace", of(0), new Told(0, 4, NONE, NONE));
        edges("told", of(0), bad(0, 1));
        edges("count", of(0), bad(0, 4));
    }

    /** Between backwards and forwards there is no way. */
    private void ofWays() {
        refused("letter", BAD, 1, 0, 0);
        refused("delay", BAD, 1, 0, 0);
    }

    private void edges(String call, int[] fine, Told... told) {
        for (int at = 0; at < told.length; at++) {
            if (told[at] == null) {
                continue;
            }
            for (int edge : new int[] {told[at].least, told[at].most}) {
                int[] numbers = with(fine, at, edge);
                long answer = Calls.answer(prepared(), call, numbers);
                due.holds(named(call, numbers) + " is as told, not " + answer, answer >= 0);
            }
            for (int below : new int[] {told[at].least - 1, told[at].least - 2, Integer.MIN_VALUE}) {
                refused(call, told[at].below, with(fine, at, below));
            }
            for (int above : new int[] {told[at].most + 1, told[at].most + 2, Integer.MAX_VALUE}) {
                refused(call, told[at].above, with(fine, at, above));
            }
        }
    }

    private static int[] with(int[] fine, int at, int number) {
        int[] numbers = fine.clone();
        numbers[at] = number;
        return numbers;
    }

    private void refused(String call, int answer, int... numbers) {
        SpinBench x = prepared();
        due.is(named(call, numbers), Calls.answer(x, call, numbers), answer);
        Look after = Look.at(x);
        int finding = answer <= -1000011 ? -1000010 - answer : untouched.status();
        due.is("status after " + named(call, numbers), after.status(), finding);
        due.holds(named(call, numbers) + " changes nothing",
                after.told().equals(untouched.told()) && after.rest().equals(untouched.rest()));
    }

    private String named(String call, int[] numbers) {
        return spins + " SPINS: " + call + Arrays.toString(numbers);
    }
}
