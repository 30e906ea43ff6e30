import java.util.Arrays;
import java.util.function.Supplier;

/**
 * "Refusals are answers, the first of these that fits: BAD, STATE, FULL, then FINDINGS, of several the first in time."
 * "What is refused, or found, changes nothing but status(), if nothing else is told."
 */
public final class RefusalsTest {
    private static final int BAD = SpinBench.BAD, STATE = SpinBench.STATE, FULL = SpinBench.FULL;
    private static final int NULL = -1000011, PLACE = -1000012, KIND = -1000013, SIZE = -1000014, STORE = -1000015;
    private static final int X = Build.X, Y = Build.Y, Z = Build.Z;
    private static final Due due = new Due("RefusalsTest");

    /** An object that is made anew for each call, and what can be seen of it without that call. */
    private final String name;
    private final Supplier<SpinBench> make;
    private final Look untouched;

    private RefusalsTest(String name, Supplier<SpinBench> make) {
        this.name = name;
        this.make = make;
        untouched = Look.at(make.get());
    }

    public static void main(String[] args) {
        new RefusalsTest("new", () -> new SpinBench(2)).ofANewObject();
        RefusalsTest busy = new RefusalsTest("busy", RefusalsTest::busy);
        busy.findingsOfTables();
        busy.findingsInTime();
        busy.badAheadOfFindings();
        busy.findingOfSpins();
        new RefusalsTest("three open ROUNDS", RefusalsTest::threeOpen).ofOpenRounds();
        new RefusalsTest("40 OPS, a ROUND open", RefusalsTest::fortyOps).ofAFullProgram();
        new RefusalsTest("40 OPS, none open", RefusalsTest::fortyEnded).ofAFullProgramThatIsEnded();
        new RefusalsTest("40 OPS, three open", RefusalsTest::fortyThreeOpen).stateAheadOfFull();
        new RefusalsTest("10^12", RefusalsTest::mostNumbers).ofNumbersBeyond();
        new RefusalsTest("300 TERMS", RefusalsTest::mostTerms).ofTermsBeyond();
        new RefusalsTest("C0^12", RefusalsTest::mostPowers).ofPowersBeyond();
        new RefusalsTest("RUN to a missing TABLE", () -> runs(0)).found(1, NULL);
        new RefusalsTest("RUN to no ITEM", () -> runs(1)).found(2, PLACE);
        new RefusalsTest("RUN to powers beyond", () -> runs(2)).found(2, FULL);
        new RefusalsTest("RUN to 501 STEPS", () -> runs(3)).found(2, FULL);
        due.end();
    }

    private void refused(int answer, String call, int... numbers) {
        SpinBench x = make.get();
        String what = name + ": " + call + Arrays.toString(numbers);
        due.is(what, Calls.answer(x, call, numbers), answer);
        Look after = Look.at(x);
        int finding = answer <= NULL ? -1000010 - answer : untouched.status();
        due.is("status after " + what, after.status(), finding);
        if (!call.equals("run") || answer == STATE) {
            due.holds("told() is as it was after " + what, after.told().equals(untouched.told()));
        }
        due.holds(what + " changes nothing", after.rest().equals(untouched.rest()));
    }

    private void ofANewObject() {
        refused(NULL, "set", 0, 0, 0);
        refused(NULL, "copy", 0, 0, 0, 0, 0);
        refused(NULL, "drop", 7);
        refused(SIZE, "table", 0, 0, -1);
        refused(BAD, "number", -1, 0);
        refused(BAD, "power", 7, 0, -1);
        refused(STATE, "end");
        refused(STATE, "back");
        refused(BAD, "kind", 0);
        refused(BAD, "is", 0, 0);
        refused(BAD, "spins", 0);
        refused(BAD, "ask", 0, 0);
    }

    /** TABLES of all LANES, an empty one, SUMS, a PROGRAM of all KINDS, a RUN, a TRACE, and a finding in status(). */
    private static SpinBench busy() {
        SpinBench x = new SpinBench(2);
        for (int lane = 0; lane < 3; lane++) {
            x.table(lane, lane, 4);
            for (int i = 0; i < 4; i++) {
                x.set(lane, i, i + lane);
            }
        }
        x.table(3, 2, 0);
        x.add(-1, Z, 3);
        x.letter(X, 1, 1);
        x.add(5, Y + 4 * Z, -7);
        x.round(4);
        x.pulse(3, 1, 1);
        x.cycled(1, 2, 1, 1);
        x.delay(Z, 2, -1);
        x.store(4, -2);
        x.end();
        due.is("a RUN ahead of refusals", x.run(), 21);
        x.ask(3, 1);
        x.table(6, 0, -5);
        return x;
    }

    private void findingsOfTables() {
        refused(SIZE, "table", 0, 2, -1);
        refused(SIZE, "table", 0, 0, Integer.MIN_VALUE);
        refused(NULL, "set", 4, 0, 1);
        refused(PLACE, "set", 0, 4, 1);
        refused(PLACE, "set", 3, 0, 1);
        refused(NULL, "copy", 0, 0, 4, 0, 1);
        refused(NULL, "copy", 4, 0, 0, 0, 1);
        refused(STORE, "copy", 0, 0, 1, 0, 1);
        refused(PLACE, "copy", 0, 1, 0, 0, 4);
        refused(PLACE, "copy", 0, 0, 0, 1, 4);
        refused(PLACE, "copy", 0, 0, 0, 0, -1);
        refused(NULL, "drop", 4);
    }

    /** Of several FINDINGS the first in time: NULL, then STORE, then PLACE. */
    private void findingsInTime() {
        refused(NULL, "set", 4, -1, 1);
        refused(NULL, "set", 4, 60, 1);
        refused(NULL, "copy", 0, -1, 4, 0, 1);
        refused(NULL, "copy", 4, 0, 5, 0, -1);
        refused(STORE, "copy", 0, -1, 1, 0, 1);
        refused(STORE, "copy", 1, 0, 2, 9, 1);
        refused(STORE, "copy", 0, 0, 1, 0, -1);
        refused(STORE, "copy", 0, 0, 1, 0, 0);
    }

    private void badAheadOfFindings() {
        refused(BAD, "table", 8, 0, -1);
        refused(BAD, "table", -1, 0, -1);
        refused(BAD, "table", 0, 3, -1);
        refused(BAD, "table", 0, -1, -1);
        refused(BAD, "set", 8, -1, 0);
        refused(BAD, "copy", 4, 0, 8, 0, 0);
        refused(BAD, "copy", -1, 0, 4, 0, 0);
        refused(BAD, "copy", 8, -1, 0, -1, -1);
        refused(BAD, "spins", 6);
        refused(BAD, "spins", -1);
    }

    private void findingOfSpins() {
        refused(KIND, "spins", 0);
        refused(KIND, "spins", 3);
        refused(KIND, "spins", 4);
        refused(KIND, "spins", 5);
    }

    private static SpinBench threeOpen() {
        SpinBench x = busy();
        x.round(1);
        x.round(2);
        x.cycled(1, 0, 0, 7);
        x.round(3);
        return x;
    }

    private void ofOpenRounds() {
        refused(STATE, "round", 1);
        refused(BAD, "round", 0);
        refused(BAD, "round", 9);
        // The CYCLED PULSE of a missing TABLE is not come to.
        refused(STATE, "run");
    }

    private static SpinBench fortyOps() {
        SpinBench x = busy();
        x.round(2);
        while (x.count(1) < 40) {
            x.pulse(1, 0, 1);
        }
        return x;
    }

    private void ofAFullProgram() {
        refused(FULL, "pulse", 1, 0, 0);
        refused(FULL, "cycled", 1, 0, 0, 0);
        refused(FULL, "delay", 1, 0, 1);
        refused(FULL, "round", 1);
        refused(FULL, "end");
        refused(FULL, "store", 0, 1);
        refused(STATE, "run");
        refused(BAD, "pulse", 4, 0, 0);
        refused(BAD, "pulse", 1, 4, 0);
        refused(BAD, "pulse", 1, 0, 4);
        refused(BAD, "cycled", 0, 0, 0, 0);
        refused(BAD, "cycled", 1, 0, 0, 8);
        refused(BAD, "delay", 16, 0, 1);
        refused(BAD, "delay", 1, 4, 1);
        refused(BAD, "delay", 1, 0, 0);
        refused(BAD, "round", 0);
        refused(BAD, "store", -1, 1);
        refused(BAD, "store", 0, 4);
    }

    private static SpinBench fortyEnded() {
        SpinBench x = fortyOps();
        x.back();
        x.end();
        return x;
    }

    private void ofAFullProgramThatIsEnded() {
        refused(STATE, "end");
        refused(FULL, "round", 8);
        refused(FULL, "pulse", 3, 3, 3);
    }

    private static SpinBench fortyThreeOpen() {
        SpinBench x = fortyOps();
        x.back();
        x.back();
        x.round(1);
        x.round(1);
        return x;
    }

    private void stateAheadOfFull() {
        refused(STATE, "round", 1);
        refused(BAD, "round", -1);
        refused(FULL, "end");
        refused(STATE, "run");
    }

    /** WORK: 10^12 x; SHELF 0: -10^12 x. status() has a finding. */
    private static SpinBench mostNumbers() {
        SpinBench x = new SpinBench(1);
        Build.most(x, -1, X);
        x.join(0, -1, -1);
        x.drop(0);
        return x;
    }

    private void ofNumbersBeyond() {
        refused(FULL, "add", -1, X, 1);
        refused(FULL, "add", -1, X, Integer.MAX_VALUE);
        refused(FULL, "add", 0, X, -1);
        refused(FULL, "add", 0, X, Integer.MIN_VALUE);
        refused(FULL, "join", -1, -1, 1);
        refused(FULL, "join", 0, 0, 3);
        refused(FULL, "join", -1, 0, -1);
        refused(FULL, "join", 1, 0, 2);
        refused(FULL, "product", 0, 0, 0);
        refused(FULL, "product", 1, 0, -1);
        refused(BAD, "add", -1, 4, 1);
        refused(BAD, "add", 8, X, 1);
        refused(BAD, "join", -1, -1, 4);
        refused(BAD, "product", 8, 0, 0);
    }

    /** WORK: 300 TERMS; SHELF 0: one, of another row. */
    private static SpinBench mostTerms() {
        SpinBench x = new SpinBench(4);
        Build.threeHundred(x);
        x.add(0, 0, 1);
        x.drop(0);
        return x;
    }

    private void ofTermsBeyond() {
        refused(FULL, "add", -1, 0, 1);
        refused(FULL, "add", -1, Z, 1);
        refused(FULL, "join", -1, 0, 1);
        refused(FULL, "join", 0, -1, -1);
        refused(FULL, "letter", X, 2, 1);
        refused(FULL, "letter", X, 0, 1);
        refused(BAD, "add", -1, 256, 1);
        refused(BAD, "letter", 256, 2, 1);
        refused(BAD, "letter", X, 4, 1);
        refused(BAD, "letter", X, 2, 0);
    }

    /** WORK: x turned about z twelve times by LETTER 0. */
    private static SpinBench mostPowers() {
        SpinBench x = new SpinBench(1);
        x.add(-1, X, 1);
        for (int i = 0; i < 12; i++) {
            x.letter(Z, 0, 1);
        }
        x.drop(0);
        return x;
    }

    private void ofPowersBeyond() {
        refused(FULL, "letter", Z, 0, 1);
        refused(FULL, "letter", X, 0, 1);
        refused(FULL, "letter", Y, 0, -1);
        refused(FULL, "product", 3, -1, -1);
        refused(FULL, "product", -1, -1, -1);
    }

    /** PROGRAMS that change WORK and SHELF 2 ahead of what ends their RUN. */
    private static SpinBench runs(int which) {
        SpinBench x = busy();
        while (x.count(1) > 0) {
            x.back();
        }
        x.pulse(1, 0, 1);
        x.store(2, 1);
        x.round(8);
        if (which == 0 || which == 1) {
            x.cycled(1, 0, 1, which == 0 ? 7 : 1);
        } else if (which == 2) {
            x.round(8);
            x.delay(X, 0, 1);
            x.delay(Z, 0, 1);
            x.end();
        } else {
            x.round(8);
            for (int i = 0; i < 7; i++) {
                x.pulse(2, 0, 1);
            }
            x.end();
        }
        x.end();
        return x;
    }

    /** The finding of a RUN, or FULL; what told() tells then is told. */
    private void found(int least, int answer) {
        refused(answer, "run");
        SpinBench x = make.get();
        x.run();
        due.holds(name + ": STEPS were done ahead", x.told(0) > least);
        due.holds(name + ": an OP was begun", x.told(1) > least);
    }
}
