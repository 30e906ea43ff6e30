/** Promises 18 to 33, and what is told of PROGRAMS ahead of them: each boundary case in a test of its own. */
public final class ProgramEdgesTest {
    private static final int NONE = SpinBench.NONE, BAD = SpinBench.BAD, STATE = SpinBench.STATE, FULL = SpinBench.FULL;
    private static final int NULL = -1000011, PLACE = -1000012, KIND = -1000013;
    private static final int X = Build.X, Y = Build.Y, Z = Build.Z;
    private static final Due due = new Due("ProgramEdgesTest");

    public static void main(String[] args) {
        setsOfEachNumberOfSpins();
        pulsesByNoQuarters();
        pulsesOfAllSpins();
        fortyOps();
        fortyOpsOfEachKind();
        cycledOfAMissingTable();
        phasesModuloFour();
        itemWithoutARound();
        itemsUpToEight();
        itemsAnewInEachRound();
        roundsOfOneAndEight();
        threeRoundsOpen();
        endOfNone();
        endOfTheLatest();
        storeTimesNothing();
        storeTimesThree();
        backOfNone();
        backOverRounds();
        backThenAnother();
        opsThatAreNotThere();
        kindsThatAreNone();
        spinsOfOthers();
        traceOfNone();
        traceIsEmptyAheadOfAnAsk();
        traceStaysAfterRefusals();
        runOfNone();
        runOfOpenRounds();
        runOfFiveHundred();
        runOfFiveHundredAndOne();
        runFullByPowers();
        runFullByNumbers();
        runFullByTerms();
        runFullByStoredNumbers();
        runFullByStoredTerms();
        runWithinThenBeyond();
        runOfAMissingTable();
        runOfNoSuchItem();
        runFindsTheFirst();
        runFindsWhatTurnsNothing();
        runStaysAfterAFinding();
        runAfterAFinding();
        toldOfNoRun();
        toldOfTheLatestRun();
        toldStaysAfterState();
        countOfEachAtItsMost();
        statusOfRuns();
        theLastOfAllCalls();
        due.end();
    }

    /** "BAD: set (1 to 2 to the power n, less 1)" */
    private static void setsOfEachNumberOfSpins() {
        for (int n = 1; n <= 4; n++) {
            SpinBench x = new SpinBench(n);
            for (int set = -1; set <= 17; set++) {
                boolean fine = set >= 1 && set < 1 << n;
                int place = x.count(1);
                due.is("18: set " + set + " of " + n, x.pulse(set, 0, 0), fine ? place : BAD);
                due.is("27: its set", x.spins(place), fine ? set : BAD);
                due.is("19: set " + set + " of " + n, x.cycled(set, 0, 0, 0), fine ? place + 1 : BAD);
            }
        }
    }

    private static SpinBench withWork(int spins, int product, int number) {
        SpinBench x = new SpinBench(spins);
        x.add(-1, product, number);
        return x;
    }

    private static void workIs(String what, SpinBench x, int product, long number) {
        due.is(what + ": TERMS", x.terms(-1), 1);
        due.is(what + ": PRODUCT", x.power(-1, 0, -1), product);
        due.is(what + ": number", x.number(-1, 0), number);
    }

    /** "by q quarters (f 2, 3: 4 less q)": 4 less 0 is a whole turn. */
    private static void pulsesByNoQuarters() {
        for (int f = 0; f < 4; f++) {
            SpinBench x = withWork(1, Z, 7);
            x.pulse(1, f, 0);
            due.is("30: a STEP", x.run(), 1);
            workIs("30: phase " + f + " by 0", x, Z, 7);
            x.pulse(1, f, 1);
            x.pulse(1, (f + 2) % 4, 1);
            due.is("30: there and back", x.run(), 3);
            workIs("30: phase " + f + " and its opposite", x, Z, 7);
            x.pulse(1, f, 3);
            x.pulse(1, f, 1);
            due.is("30: around", x.run(), 5);
            workIs("30: phase " + f + " by 3 and 1", x, Z, 7);
        }
    }

    /** "for each SPIN of the set" */
    private static void pulsesOfAllSpins() {
        for (int set = 1; set < 16; set++) {
            SpinBench x = withWork(4, 255, 1);
            x.pulse(set, 0, 1);
            x.run();
            int product = 0;
            for (int spin = 3; spin >= 0; spin--) {
                product = 4 * product + ((set >> spin & 1) == 1 ? Y : Z);
            }
            workIs("30: set " + set, x, product, Integer.bitCount(set) % 2 == 0 ? 1 : -1);
        }
    }

    /** "A PROGRAM is a row of OPS, 40 at most"; "FULL: 40 OPS" */
    private static void fortyOps() {
        SpinBench x = new SpinBench(1);
        for (int i = 0; i < 40; i++) {
            due.is("18: OP " + i, x.pulse(1, 0, 1), i);
        }
        due.is("18: OP 40", x.pulse(1, 0, 1), FULL);
        due.is("32: 40 OPS", x.count(1), 40);
        due.is("25: the last", x.kind(39), 2);
        due.is("25: none behind it", x.kind(40), BAD);
        due.is("24: one goes", x.back(), 39);
        due.is("18: one comes", x.pulse(1, 0, 1), 39);
        due.is("18: FULL again", x.pulse(1, 0, 1), FULL);
        due.is("30: all of them", x.run(), 40);
        due.is("31: the last one", x.told(1), 39);
    }

    /** "FULL": of each KIND */
    private static void fortyOpsOfEachKind() {
        String[] calls = {"pulse", "cycled", "delay", "round", "end", "store"};
        int[][] numbers = {{1, 0, 0}, {1, 0, 0, 0}, {0, 0, 1}, {1}, {}, {0, 0}};
        int[] kinds = {2, 3, 4, 5, 6, 7};
        for (int i = 0; i < calls.length; i++) {
            SpinBench x = new SpinBench(1);
            x.round(1);
            while (x.count(1) < 39) {
                x.pulse(1, 0, 0);
            }
            int open = 1 + (kinds[i] == 5 ? 1 : kinds[i] == 6 ? -1 : 0);
            due.is("18: the 40th, " + calls[i], Calls.answer(x, calls[i], numbers[i]), 39);
            due.is("25: its KIND", x.kind(39), kinds[i]);
            due.is("32: ROUNDS", x.count(3), open);
            due.is("18: the 41st, " + calls[i], Calls.answer(x, calls[i], numbers[i]), kinds[i] == 6 ? STATE : FULL);
            due.is("32: 40 still", x.count(1), 40);
            due.is("32: ROUNDS still", x.count(3), open);
        }
    }

    /** "BAD: the TABLE (0 .. 7), too": that it is missing is found in a RUN alone. */
    private static void cycledOfAMissingTable() {
        SpinBench x = new SpinBench(1);
        for (int table = 0; table < 8; table++) {
            due.is("19: TABLE " + table, x.cycled(1, 0, 0, table), table);
            due.is("28: its TABLE", x.ask(table, 1), table);
        }
        due.is("19: TABLE 8", x.cycled(1, 0, 0, 8), BAD);
        due.is("19: TABLE -1", x.cycled(1, 0, 0, -1), BAD);
        due.is("33: no finding", x.status(), 0);
    }

    /** "f is that told and an ITEM of a TABLE, added, modulo 4 (0 to 3)" */
    private static void phasesModuloFour() {
        int[] axes = {Y, X, Y, X};
        int[] signs = {-1, 1, 1, -1};
        int[][] items = {{-128, -5, -4, -3, -1, 3, 4, 5, 127}, {-32768, -129, 128, 32767},
            {Integer.MIN_VALUE, Integer.MIN_VALUE + 1, -32769, 32768, Integer.MAX_VALUE - 1, Integer.MAX_VALUE}};
        for (int lane = 0; lane < 3; lane++) {
            for (int item : items[lane]) {
                for (int f = 0; f < 4; f++) {
                    SpinBench x = withWork(1, Z, 1);
                    x.table(0, lane, 1);
                    due.is("3: as it is", x.set(0, 0, item), item);
                    x.cycled(1, f, 1, 0);
                    x.run();
                    int phase = (int) Math.floorMod((long) f + item, 4L);
                    workIs("30: " + f + " and " + item, x, axes[phase], signs[phase]);
                }
            }
        }
    }

    /** "(0 without a ROUND)" */
    private static void itemWithoutARound() {
        SpinBench x = withWork(1, Z, 1);
        x.table(0, 0, 2);
        x.set(0, 0, 1);
        x.set(0, 1, 2);
        x.round(2);
        x.end();
        x.cycled(1, 0, 1, 0);
        due.is("30: behind a ROUND", x.run(), 4);
        workIs("30: ITEM 0, about y", x, X, 1);
        x.table(0, 0, 1);
        due.is("30: one ITEM is enough", x.run(), 4);
        x.table(0, 0, 0);
        due.is("30: none is not", x.run(), PLACE);
    }

    /** "ITEM t, t being how often the OPS of the innermost ROUND around it were done already": 0 to 7 */
    private static void itemsUpToEight() {
        for (int often = 1; often <= 8; often++) {
            SpinBench x = withWork(1, X, 1);
            x.table(0, 0, often);
            // Only the last ITEM is y: a half turn about x leaves x, one about y makes it minus.
            x.set(0, often - 1, 1);
            x.round(often);
            x.cycled(1, 0, 2, 0);
            x.store(0, 1);
            x.end();
            due.is("30: as many ITEMS", x.run(), 1 + 3 * often);
            workIs("30: " + often, x, X, -1);
            due.is("30: once minus", often == 2 ? 0 : x.number(0, 0), often - 2);
            x.table(0, 0, often - 1);
            due.is("30: one ITEM less", x.run(), PLACE);
            due.is("31: STEPS", x.told(0), 1 + 3 * (often - 1));
            due.is("31: the OP", x.told(1), 1);
        }
    }

    /** "in this ROUND": one that is come to anew begins with ITEM 0. */
    private static void itemsAnewInEachRound() {
        SpinBench x = withWork(1, X, 1);
        x.table(0, 0, 2);
        x.set(0, 0, 1);
        x.round(3);
        x.round(2);
        x.cycled(1, 0, 2, 0);
        x.end();
        x.store(0, 1);
        x.end();
        due.is("30: STEPS", x.run(), 1 + 3 * (1 + 4 + 2));
        // Minus after each inner ROUND: -1, 1, -1.
        due.is("30: added up", x.number(0, 0), -1);
        workIs("30: minus thrice", x, X, -1);
        due.is("30: anew in the next RUN", x.run(), 22);
        workIs("30: minus six times", x, X, 1);
    }

    /** "are done so often (1 to 8)" */
    private static void roundsOfOneAndEight() {
        int[] often = {1, 8};
        for (int one : often) {
            SpinBench x = withWork(1, Z, 1);
            due.is("21: a place", x.round(one), 0);
            due.is("28: how often", x.ask(0, 0), one);
            x.store(0, 1);
            x.end();
            due.is("30: STEPS", x.run(), 1 + 2 * one);
            due.is("30: stored", x.number(0, 0), one);
        }
        for (int one : new int[] {Integer.MIN_VALUE, -1, 0, 9, 10, Integer.MAX_VALUE}) {
            SpinBench x = new SpinBench(1);
            due.is("21: " + one, x.round(one), BAD);
            due.is("32: no OP came", x.count(1), 0);
            due.is("32: no ROUND", x.count(3), 0);
        }
    }

    /** "STATE: three are not ended yet" */
    private static void threeRoundsOpen() {
        SpinBench x = new SpinBench(1);
        for (int i = 0; i < 3; i++) {
            due.is("21: ROUND " + i, x.round(1), i);
            due.is("32: open", x.count(3), i + 1);
        }
        due.is("21: a fourth", x.round(1), STATE);
        due.is("21: of none", x.round(0), BAD);
        due.is("32: three OPS", x.count(1), 3);
        for (int i = 0; i < 5; i++) {
            due.is("22: one ends", x.end(), 3 + 2 * i);
            due.is("21: one comes", x.round(1), 4 + 2 * i);
            due.is("21: no fourth", x.round(1), STATE);
        }
        for (int i = 0; i < 3; i++) {
            x.end();
        }
        due.is("30: a RUN", x.run(), 16);
    }

    /** "STATE: there is none" */
    private static void endOfNone() {
        SpinBench x = new SpinBench(1);
        due.is("22: at first", x.end(), STATE);
        x.pulse(1, 0, 0);
        due.is("22: without a ROUND", x.end(), STATE);
        x.round(1);
        due.is("22: of it", x.end(), 2);
        due.is("22: twice", x.end(), STATE);
        due.is("32: OPS", x.count(1), 3);
    }

    /** "An END of the latest ROUND that is not ended" */
    private static void endOfTheLatest() {
        SpinBench x = withWork(1, Z, 1);
        x.round(2);
        x.round(3);
        x.end();
        x.round(5);
        x.store(0, 1);
        x.end();
        x.store(1, 1);
        x.end();
        x.store(2, 1);
        due.is("30: STEPS", x.run(), 1 + 2 * (1 + 3 + 1 + 10 + 1 + 1) + 1);
        due.is("30: in the inner one", x.number(0, 0), 10);
        due.is("30: in the outer one", x.number(1, 0), 2);
        due.is("30: behind both", x.number(2, 0), 1);
    }

    /** "WORK is added to a SHELF, times a number -3 to 3": 0 */
    private static void storeTimesNothing() {
        SpinBench x = withWork(1, Z, 5);
        x.add(1, Y, 2);
        x.store(0, 0);
        x.store(1, 0);
        due.is("30: STEPS", x.run(), 2);
        due.is("30: none came", x.terms(0), 0);
        due.is("30: as it was", x.number(1, 0), 2);
        x.clear(-1);
        x.back();
        x.back();
        x.store(1, 3);
        due.is("30: of none", x.run(), 1);
        due.is("30: as it was", x.terms(1), 1);
    }

    /** "times a number -3 to 3" */
    private static void storeTimesThree() {
        for (int number = -3; number <= 3; number++) {
            SpinBench x = withWork(1, Z, 5);
            x.add(7, Z, 100);
            due.is("23: " + number, x.store(7, number), 0);
            x.run();
            due.is("30: " + number, x.number(7, 0), 100 + 5 * number);
            workIs("30: WORK stays", x, Z, 5);
        }
    }

    /** "STATE: none" */
    private static void backOfNone() {
        SpinBench x = new SpinBench(1);
        due.is("24: at first", x.back(), STATE);
        x.pulse(1, 0, 0);
        due.is("24: one", x.back(), 0);
        due.is("24: none", x.back(), STATE);
        due.is("32: none", x.count(1), 0);
        due.is("18: the first again", x.pulse(1, 0, 0), 0);
    }

    /** "The last OP goes": an END, whose ROUND is not ended then; a ROUND, which is not there then. */
    private static void backOverRounds() {
        SpinBench x = new SpinBench(1);
        int[] open = {1, 2, 3, 2, 3, 2, 1, 2, 1, 0};
        for (int i = 0; i < open.length; i++) {
            int ahead = i == 0 ? 0 : open[i - 1];
            due.is("21: place " + i, open[i] > ahead ? x.round(2) : x.end(), i);
        }
        for (int left = open.length - 1; left >= 0; left--) {
            due.is("24: " + left, x.back(), left);
            int now = left == 0 ? 0 : open[left - 1];
            due.is("32: open with " + left, x.count(3), now);
            due.is("30: a RUN of " + left, x.run() == STATE ? 1 : 0, now > 0 ? 1 : 0);
        }
        due.is("22: none to end", x.end(), STATE);
    }

    /** "The last OP goes": nothing of it is left for what comes in its place. */
    private static void backThenAnother() {
        SpinBench x = new SpinBench(2);
        x.round(8);
        x.back();
        x.cycled(3, 1, 1, 5);
        x.back();
        x.delay(9, 3, 1);
        x.back();
        due.is("23: in their place", x.store(6, 1), 0);
        due.is("25: its KIND", x.kind(0), 7);
        due.is("26: no LEAD", x.is(0, 1), 0);
        due.is("27: no PULSE", x.spins(0), KIND);
        due.is("28: COST", x.ask(0, 0), 1);
        due.is("28: MARK", x.ask(0, 1), 6);
        due.is("22: no ROUND", x.end(), STATE);
        due.is("30: no TABLE is missed", x.run(), 1);
    }

    /** "BAD (.. there is no such thing)": no such OP */
    private static void opsThatAreNotThere() {
        SpinBench x = new SpinBench(1);
        for (int ops = 0; ops < 3; ops++) {
            for (int op : new int[] {Integer.MIN_VALUE, -1, ops, ops + 1, 39, 40, Integer.MAX_VALUE}) {
                due.is("25: OP " + op + " of " + ops, x.kind(op), BAD);
                due.is("26: OP " + op + " of " + ops, x.is(op, 0), BAD);
                due.is("27: OP " + op + " of " + ops, x.spins(op), BAD);
                due.is("28: COST of " + op + " of " + ops, x.ask(op, 0), BAD);
                due.is("28: MARK of " + op + " of " + ops, x.ask(op, 1), BAD);
            }
            x.pulse(1, 0, 0);
        }
    }

    /** "Whether an OP is of a KIND (0 .. 7): 1, 0. BAD." */
    private static void kindsThatAreNone() {
        SpinBench x = new SpinBench(1);
        x.cycled(1, 0, 0, 0);
        int[] want = {1, 1, 1, 1, 0, 0, 0, 0};
        for (int kind = 0; kind < 8; kind++) {
            due.is("26: KIND " + kind, x.is(0, kind), want[kind]);
        }
        for (int kind : new int[] {Integer.MIN_VALUE, -1, 8, 9, Integer.MAX_VALUE}) {
            due.is("26: KIND " + kind, x.is(0, kind), BAD);
        }
    }

    /** "An OP is taken as a PULSE: .. KIND: it is none." */
    private static void spinsOfOthers() {
        SpinBench x = new SpinBench(2);
        x.round(1);
        x.end();
        x.delay(0, 0, 1);
        x.store(0, 0);
        for (int op = 0; op < 4; op++) {
            due.is("27: OP " + op, x.spins(op), KIND);
            due.is("33: status", x.status(), 3);
        }
        x.pulse(2, 0, 0);
        x.cycled(3, 0, 0, 0);
        due.is("27: a PULSE", x.spins(4), 2);
        due.is("33: none", x.status(), 0);
        x.spins(0);
        due.is("27: a CYCLED one", x.spins(5), 3);
        due.is("33: none", x.status(), 0);
    }

    /** "Number i of THE TRACE; NONE." */
    private static void traceOfNone() {
        SpinBench x = new SpinBench(1);
        for (int i : new int[] {Integer.MIN_VALUE, -1, 0, 1, 15, 16, Integer.MAX_VALUE}) {
            due.is("29: " + i + " of none", x.trace(i), NONE);
        }
        x.cycled(1, 0, 0, 0);
        x.ask(0, 0);
        due.is("29: the first", x.trace(0), 13);
        due.is("29: the last", x.trace(4), 23);
        for (int i : new int[] {Integer.MIN_VALUE, -1, 5, 6, 15, 16, Integer.MAX_VALUE}) {
            due.is("29: " + i + " of five", x.trace(i), NONE);
        }
    }

    /** "THE TRACE is empty ahead of it." */
    private static void traceIsEmptyAheadOfAnAsk() {
        SpinBench x = new SpinBench(1);
        x.cycled(1, 0, 0, 0);
        for (int i = 0; i < 20; i++) {
            x.ask(0, 0);
        }
        due.is("29: the fifth", x.trace(4), 23);
        due.is("29: no sixth", x.trace(5), NONE);
        x.ask(0, 1);
        due.is("29: one", x.trace(0), 23);
        due.is("29: no second", x.trace(1), NONE);
        due.is("29: no fifth", x.trace(4), NONE);
    }

    /** "What is refused .. changes nothing": nor do RUNS leave BODIES. */
    private static void traceStaysAfterRefusals() {
        SpinBench x = new SpinBench(1);
        x.delay(0, 2, 1);
        x.ask(0, 1);
        x.ask(1, 0);
        x.ask(-1, 1);
        x.ask(0, 2);
        x.ask(0, -1);
        x.run();
        x.back();
        int[] bodies = {22, 21, 20, 11, 10, NONE};
        for (int i = 0; i < bodies.length; i++) {
            due.is("29: " + i, x.trace(i), bodies[i]);
        }
    }

    /** "It ends behind the last OP." */
    private static void runOfNone() {
        SpinBench x = withWork(1, Z, 1);
        due.is("30: none", x.run(), 0);
        due.is("31: STEPS", x.told(0), 0);
        due.is("31: none begun", x.told(1), NONE);
        workIs("30: WORK", x, Z, 1);
        x.pulse(1, 0, 1);
        x.back();
        due.is("30: none again", x.run(), 0);
    }

    /** "STATE: a ROUND is not ended": ahead of what would be found, or FULL */
    private static void runOfOpenRounds() {
        SpinBench x = withWork(1, Z, 1);
        x.pulse(1, 0, 1);
        x.cycled(1, 0, 0, 3);
        for (int open = 1; open <= 3; open++) {
            x.round(8);
            due.is("30: open " + open, x.run(), STATE);
            workIs("30: WORK stays", x, Z, 1);
        }
        due.is("33: nothing found", x.status(), 0);
        due.is("31: no STEPS", x.told(0), 0);
        due.is("31: none begun", x.told(1), NONE);
        x.end();
        due.is("30: two open", x.run(), STATE);
        x.end();
        due.is("30: one open", x.run(), STATE);
        x.end();
        due.is("30: none open", x.run(), NULL);
    }

    /** 500 STEPS: a ROUND of 8 around a ROUND of 8 around six OPS, and 35 more; WORK goes to SHELF 0 in the last one. */
    private static SpinBench fiveHundred() {
        SpinBench x = withWork(1, Z, 1);
        x.round(8);
        x.round(8);
        for (int i = 0; i < 6; i++) {
            x.pulse(1, 0, 1);
        }
        x.end();
        x.end();
        x.round(8);
        for (int i = 0; i < 3; i++) {
            x.pulse(1, 0, 0);
        }
        x.end();
        x.pulse(1, 0, 1);
        x.store(0, 1);
        return x;
    }

    /** "more than 500 STEPS": 500 are not. */
    private static void runOfFiveHundred() {
        SpinBench x = fiveHundred();
        due.is("30: 500", x.run(), 500);
        due.is("31: 500", x.told(0), 500);
        due.is("31: the last OP", x.told(1), x.count(1) - 1);
        due.is("30: its STORE", x.number(0, 0), -1);
        workIs("30: WORK", x, Y, -1);
    }

    /** "more than 500 STEPS"; "WORK and SHELVES are as they were ahead of the RUN" */
    private static void runOfFiveHundredAndOne() {
        SpinBench x = fiveHundred();
        int last = x.count(1) - 1;
        x.store(1, 1);
        due.is("30: 501", x.run(), FULL);
        due.is("31: 500 were done", x.told(0), 500);
        due.is("31: the 501st was not begun", x.told(1), last);
        due.is("30: SHELF 0", x.terms(0), 0);
        workIs("30: WORK", x, Z, 1);
        x.back();
        x.cycled(1, 0, 0, 7);
        due.is("30: a missing TABLE is not come to", x.run(), FULL);
        due.is("33: nothing found", x.status(), 0);
        x.back();
        due.is("30: 500 again", x.run(), 500);
    }

    private static void asAhead(String what, SpinBench x, long[] digests) {
        for (int shelf = -1; shelf < 8; shelf++) {
            due.is(what + ": SUM " + shelf, x.digest(shelf), digests[shelf + 1]);
        }
    }

    private static long[] digests(SpinBench x) {
        long[] digests = new long[9];
        for (int shelf = -1; shelf < 8; shelf++) {
            digests[shelf + 1] = x.digest(shelf);
        }
        return digests;
    }

    /** A RUN is FULL at an OP after so many STEPS, and all SUMS are as they were. */
    private static void fullAt(String what, SpinBench x, int place, int steps) {
        long[] ahead = digests(x);
        x.drop(7);
        due.is("30: " + what, x.run(), FULL);
        due.is("31: STEPS, " + what, x.told(0), steps);
        due.is("31: the OP, " + what, x.told(1), place);
        due.is("33: status stays, " + what, x.status(), 1);
        asAhead("30: " + what, x, ahead);
    }

    /** "FULL: a SUM would be none": WORK, by powers */
    private static void runFullByPowers() {
        for (int k = 0; k < 4; k++) {
            SpinBench x = withWork(1, X, 1);
            x.add(6, Y, 9);
            x.round(6);
            x.delay(Z, k, 1);
            x.delay(Z, k, 1);
            x.store(6, 1);
            x.end();
            due.is("30: C" + k + "^12", x.run(), 1 + 6 * 4);
            due.is("30: its powers", Build.greatestPower(x, 6, 2 * k), 12);
            fullAt("C" + k + "^13", x, 1, 1);
            x.take(-1, 0);
            x.add(-1, X, 1);
            x.delay(Z, k, -1);
            x.delay(Z, k, 1);
            due.is("30: C" + k + "^14 that adds up to 0", x.run(), 27);
            x.delay(Z, k, 1);
            x.take(-1, 0);
            x.add(-1, X, 1);
            fullAt("C" + k + "^13 at the end", x, 7, 27);
        }
    }

    /** "FULL: a SUM would be none": WORK, by numbers */
    private static void runFullByNumbers() {
        SpinBench x = new SpinBench(1);
        Build.most(x, -1, X);
        x.delay(Z, 0, 1);
        x.store(3, 1);
        x.delay(Z, 0, 1);
        fullAt("2 10^12 C0 S0", x, 2, 2);
        x.back();
        x.delay(Z, 0, -1);
        due.is("30: back", x.run(), 3);
        workIs("30: back", x, X, Build.MOST);
    }

    /** "FULL: a SUM would be none": WORK, by TERMS */
    private static void runFullByTerms() {
        SpinBench x = new SpinBench(4);
        Build.spread(x, 75);
        x.store(2, 2);
        x.delay(X, 0, 1);
        x.delay(X, 1, -1);
        x.store(3, 1);
        due.is("30: 300", x.run(), 4);
        due.is("30: 300 stored", x.terms(3), 300);
        due.is("30: 300", x.terms(-1), 300);
        fullAt("600", x, 0, 0);
        x.clear(2);
        fullAt("600 of WORK", x, 1, 1);
    }

    /** "FULL: a SUM would be none": a SHELF, by numbers */
    private static void runFullByStoredNumbers() {
        for (int sign = -1; sign <= 1; sign += 2) {
            SpinBench x = new SpinBench(1);
            Build.most(x, 0, Z);
            x.join(1, 0, sign);
            x.add(1, Z, -3 * sign);
            x.add(-1, Z, 1);
            x.store(1, 3 * sign);
            due.is("30: up to the limit", x.run(), 1);
            due.is("30: its number", x.number(1, 0), sign * Build.MOST);
            x.back();
            x.store(5, 1);
            x.store(1, sign);
            fullAt("one beyond", x, 1, 1);
            x.back();
            x.store(1, -sign);
            due.is("30: one back", x.run(), 2);
        }
    }

    /** "FULL: a SUM would be none": a SHELF, by TERMS */
    private static void runFullByStoredTerms() {
        SpinBench x = new SpinBench(4);
        Build.threeHundred(x);
        x.take(4, -1);
        x.clear(-1);
        x.add(-1, 0, 1);
        x.store(5, 1);
        x.store(4, 0);
        due.is("30: none of it", x.run(), 2);
        x.store(4, 1);
        fullAt("301", x, 2, 2);
        x.add(4, 4, 0);
        due.is("12: 300", x.terms(4), 300);
    }

    /** "(Where it is FULL .. WORK and SHELVES are as they were ahead of the RUN.)": of each STEP ahead */
    private static void runWithinThenBeyond() {
        SpinBench x = new SpinBench(2);
        x.add(-1, X, 1);
        for (int shelf = 0; shelf < 8; shelf++) {
            x.add(shelf, Y, shelf + 1);
            x.store(shelf, 1 + shelf % 3);
        }
        x.pulse(3, 1, 1);
        for (int i = 0; i < 13; i++) {
            x.delay(X, 3, 1);
        }
        fullAt("the 13th DELAY", x, 21, 21);
        x.back();
        due.is("30: twelve", x.run(), 21);
        due.is("30: all SHELVES", x.count(4), 8 * 2 + x.terms(-1));
    }

    /** "NULL .. : a TABLE of a CYCLED PULSE" */
    private static void runOfAMissingTable() {
        for (int table = 0; table < 8; table++) {
            SpinBench x = withWork(1, Z, 1);
            x.cycled(1, 0, 1, table);
            due.is("30: never there", x.run(), NULL);
            due.is("33: status", x.status(), 1);
            due.is("31: no STEP", x.told(0), 0);
            due.is("31: but begun", x.told(1), 0);
            x.table(table, 0, 1);
            due.is("30: there", x.run(), 1);
            x.drop(table);
            due.is("30: no more", x.run(), NULL);
            workIs("30: WORK", x, Y, -1);
        }
    }

    /** "PLACE: a TABLE of a CYCLED PULSE" */
    private static void runOfNoSuchItem() {
        SpinBench x = withWork(1, Z, 1);
        x.round(8);
        x.cycled(1, 0, 1, 2);
        x.end();
        for (int size = 0; size < 8; size++) {
            x.table(2, 1, size);
            due.is("30: ITEM " + size, x.run(), PLACE);
            due.is("33: status", x.status(), 2);
            due.is("31: STEPS", x.told(0), 1 + 2 * size);
            due.is("31: the OP", x.told(1), 1);
            workIs("30: WORK", x, Z, 1);
        }
        x.table(2, 1, 8);
        due.is("30: eight ITEMS", x.run(), 17);
        due.is("33: status", x.status(), 0);
    }

    /** "of several the first in time" */
    private static void runFindsTheFirst() {
        SpinBench x = withWork(1, Z, 1);
        x.table(0, 0, 0);
        x.cycled(1, 0, 0, 0);
        x.cycled(1, 0, 0, 1);
        due.is("30: PLACE ahead of NULL", x.run(), PLACE);
        x.table(0, 0, 1);
        due.is("30: NULL", x.run(), NULL);
        x.table(0, 0, 0);
        x.table(1, 0, 1);
        x.drop(0);
        due.is("30: NULL ahead of none", x.run(), NULL);
        due.is("31: the first OP", x.told(1), 0);
        SpinBench y = withWork(1, X, 1);
        y.table(0, 0, 7);
        y.round(8);
        y.cycled(1, 0, 0, 0);
        y.delay(Z, 0, 1);
        y.delay(Z, 0, 1);
        y.end();
        due.is("30: FULL in the seventh, ahead of PLACE in the eighth", y.run(), FULL);
        due.is("31: STEPS", y.told(0), 1 + 6 * 4 + 1);
        y.table(0, 0, 6);
        due.is("30: PLACE in the seventh, ahead of FULL", y.run(), PLACE);
        due.is("31: STEPS", y.told(0), 1 + 6 * 4);
    }

    /** "NULL, PLACE": also of a PULSE that would turn nothing */
    private static void runFindsWhatTurnsNothing() {
        SpinBench x = new SpinBench(1);
        x.cycled(1, 0, 0, 4);
        due.is("30: NULL", x.run(), NULL);
        x.table(4, 2, 0);
        due.is("30: PLACE", x.run(), PLACE);
        x.table(4, 2, 1);
        due.is("30: there", x.run(), 1);
    }

    /** "(Where it is .. found, WORK and SHELVES are as they were ahead of the RUN.)" */
    private static void runStaysAfterAFinding() {
        SpinBench x = withWork(2, Z, 4);
        for (int shelf = 0; shelf < 8; shelf++) {
            x.add(shelf, Y, shelf + 1);
        }
        x.table(0, 0, 3);
        x.round(4);
        x.pulse(1, 0, 1);
        x.delay(Z, 1, 1);
        for (int shelf = 0; shelf < 8; shelf++) {
            x.store(shelf, 2);
        }
        x.cycled(1, 1, 1, 0);
        x.end();
        long[] ahead = digests(x);
        due.is("30: PLACE", x.run(), PLACE);
        asAhead("30: PLACE", x, ahead);
        x.drop(0);
        due.is("30: NULL", x.run(), NULL);
        asAhead("30: NULL", x, ahead);
        x.table(0, 0, 4);
        due.is("30: fine", x.run(), 1 + 4 * 12);
    }

    /** "how often the OPS .. were done already in this ROUND": a RUN that ended within one leaves nothing of it. */
    private static void runAfterAFinding() {
        SpinBench x = withWork(1, Z, 1);
        x.table(0, 0, 2);
        x.round(3);
        x.cycled(1, 0, 1, 0);
        x.end();
        due.is("30: PLACE", x.run(), PLACE);
        due.is("30: PLACE again", x.run(), PLACE);
        due.is("31: as many STEPS", x.told(0), 5);
        x.table(0, 0, 3);
        due.is("30: fine", x.run(), 7);
        due.is("30: fine again", x.run(), 7);
    }

    /** "Of the latest RUN: .. (NONE: none)": there was none */
    private static void toldOfNoRun() {
        SpinBench x = new SpinBench(1);
        x.pulse(1, 0, 0);
        due.is("31: STEPS", x.told(0), 0);
        due.is("31: the OP", x.told(1), NONE);
        due.is("31: 2", x.told(2), BAD);
        due.is("31: -1", x.told(-1), BAD);
    }

    /** "Of the latest RUN": not of those ahead of it */
    private static void toldOfTheLatestRun() {
        SpinBench x = new SpinBench(1);
        x.pulse(1, 0, 0);
        x.pulse(1, 0, 0);
        x.run();
        x.back();
        due.is("31: STEPS", x.told(0), 2);
        due.is("31: an OP that went", x.told(1), 1);
        x.run();
        due.is("31: STEPS", x.told(0), 1);
        due.is("31: the OP", x.told(1), 0);
        x.back();
        x.run();
        due.is("31: no STEPS", x.told(0), 0);
        due.is("31: no OP", x.told(1), NONE);
        x.cycled(1, 0, 0, 0);
        x.run();
        due.is("31: no STEPS", x.told(0), 0);
        due.is("31: the OP was begun", x.told(1), 0);
    }

    /** "What is refused .. changes nothing": a RUN that is STATE is none. */
    private static void toldStaysAfterState() {
        SpinBench x = new SpinBench(1);
        x.pulse(1, 0, 0);
        x.run();
        x.round(1);
        due.is("30: STATE", x.run(), STATE);
        due.is("31: STEPS", x.told(0), 1);
        due.is("31: the OP", x.told(1), 0);
    }

    /** "How many: 0 SPINS, 1 OPS, 2 TABLES, 3 ROUNDS that are not ended, 4 TERMS" */
    private static void countOfEachAtItsMost() {
        SpinBench x = new SpinBench(4);
        Build.threeHundred(x);
        for (int i = 0; i < 8; i++) {
            x.take(i, -1);
            x.table(i, 0, 0);
        }
        x.round(1);
        x.round(1);
        x.round(1);
        for (int i = 0; i < 38; i++) {
            x.pulse(1, 0, 0);
        }
        int[] most = {4, 40, 8, 3, 2700};
        for (int what = 0; what < 5; what++) {
            due.is("32: " + what, x.count(what), most[what]);
        }
        for (int what : new int[] {Integer.MIN_VALUE, -1, 5, 6, Integer.MAX_VALUE}) {
            due.is("32: " + what, x.count(what), BAD);
        }
    }

    /** "run() that was not BAD, STATE, FULL: the number of its FINDING; 0: it had none" */
    private static void statusOfRuns() {
        SpinBench x = withWork(1, X, 1);
        x.cycled(1, 0, 0, 0);
        x.run();
        due.is("33: NULL", x.status(), 1);
        x.round(1);
        x.run();
        due.is("33: STATE leaves it", x.status(), 1);
        x.back();
        x.table(0, 0, 0);
        x.run();
        due.is("33: PLACE", x.status(), 2);
        x.back();
        for (int i = 0; i < 13; i++) {
            x.delay(Z, 0, 1);
        }
        due.is("33: a FULL RUN", x.run(), FULL);
        due.is("33: FULL leaves it", x.status(), 2);
        x.back();
        due.is("33: a fine RUN", x.run(), 12);
        due.is("33: none", x.status(), 0);
    }

    /** "An object is used for at most 512 calls": the 512th answers as the first did. */
    private static void theLastOfAllCalls() {
        SpinBench x = new SpinBench(4);
        for (int i = 0; i < 40; i++) {
            x.store(i % 8, 1);
        }
        for (int i = 40; i < 508; i += 2) {
            due.is("24: call " + i, x.back(), 39);
            due.is("23: call " + (i + 1), x.store(7, -3), 39);
        }
        due.is("7: call 508", x.add(-1, 255, 2), 1);
        due.is("30: call 509", x.run(), 40);
        due.is("12: call 510", x.terms(7), 1);
        due.is("13: call 511", x.number(7, 0), 2);
    }
}
