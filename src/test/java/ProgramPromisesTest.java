/** Promises 18 to 33: ordinary calls, edges, wrong calls. */
public final class ProgramPromisesTest {
    private static final int NONE = SpinBench.NONE, BAD = SpinBench.BAD, STATE = SpinBench.STATE, FULL = SpinBench.FULL;
    private static final int NULL = -1000011, PLACE = -1000012, KIND = -1000013;
    private static final int X = 1, Y = 2, Z = 3;
    private static final Due due = new Due("ProgramPromisesTest");

    public static void main(String[] args) {
        pulse();
        cycled();
        delay();
        round();
        end();
        store();
        back();
        full();
        kinds();
        spins();
        ask();
        runOfPulses();
        runOfCycles();
        runOfNestedCycles();
        runOfDelaysAndStores();
        runOfRounds();
        runLimit();
        runFull();
        runFound();
        fullAndFindings();
        told();
        count();
        status();
        due.end();
    }

    private static void pulse() {
        SpinBench x = new SpinBench(3);
        due.is("18: first", x.pulse(1, 0, 0), 0);
        due.is("18: second", x.pulse(7, 3, 3), 1);
        due.is("18: set 8", x.pulse(8, 0, 0), BAD);
        due.is("18: set 0", x.pulse(0, 0, 0), BAD);
        due.is("18: set -1", x.pulse(-1, 0, 0), BAD);
        due.is("18: f 4", x.pulse(1, 4, 0), BAD);
        due.is("18: f -1", x.pulse(1, -1, 0), BAD);
        due.is("18: q 4", x.pulse(1, 0, 4), BAD);
        due.is("18: q -1", x.pulse(1, 0, -1), BAD);
        due.is("18: third", x.pulse(4, 2, 2), 2);
        due.is("18: kind", x.kind(1), 2);
    }

    private static void cycled() {
        SpinBench x = new SpinBench(2);
        due.is("19: of a TABLE that is missing", x.cycled(3, 0, 0, 0), 0);
        due.is("19: TABLE 7", x.cycled(1, 3, 3, 7), 1);
        due.is("19: TABLE 8", x.cycled(1, 0, 0, 8), BAD);
        due.is("19: TABLE -1", x.cycled(1, 0, 0, -1), BAD);
        due.is("19: set 4", x.cycled(4, 0, 0, 0), BAD);
        due.is("19: set 0", x.cycled(0, 0, 0, 0), BAD);
        due.is("19: f", x.cycled(1, 4, 0, 0), BAD);
        due.is("19: f -1", x.cycled(1, -1, 0, 0), BAD);
        due.is("19: q", x.cycled(1, 0, 4, 0), BAD);
        due.is("19: q -1", x.cycled(1, 0, -1, 0), BAD);
        due.is("19: kind", x.kind(1), 3);
        due.is("19: OPS", x.count(1), 2);
    }

    private static void delay() {
        SpinBench x = new SpinBench(2);
        due.is("20: first", x.delay(0, 0, 1), 0);
        due.is("20: second", x.delay(15, 3, -1), 1);
        due.is("20: PRODUCT 16", x.delay(16, 0, 1), BAD);
        due.is("20: PRODUCT -1", x.delay(-1, 0, 1), BAD);
        due.is("20: LETTER 4", x.delay(1, 4, 1), BAD);
        due.is("20: LETTER -1", x.delay(1, -1, 1), BAD);
        due.is("20: way 0", x.delay(1, 0, 0), BAD);
        due.is("20: way 2", x.delay(1, 0, 2), BAD);
        due.is("20: kind", x.kind(1), 4);
        due.is("20: OPS", x.count(1), 2);
    }

    private static void round() {
        SpinBench x = new SpinBench(1);
        due.is("21: 0 times", x.round(0), BAD);
        due.is("21: 9 times", x.round(9), BAD);
        due.is("21: -1 times", x.round(-1), BAD);
        due.is("21: once", x.round(1), 0);
        due.is("21: two open", x.round(8), 1);
        due.is("21: three open", x.round(2), 2);
        due.is("21: four", x.round(2), STATE);
        due.is("21: BAD ahead of STATE", x.round(9), BAD);
        due.is("21: end", x.end(), 3);
        due.is("21: another third", x.round(2), 4);
        due.is("21: four again", x.round(2), STATE);
        due.is("21: open", x.count(3), 3);
        due.is("21: kind", x.kind(4), 5);
    }

    private static void end() {
        SpinBench x = new SpinBench(1);
        due.is("22: nothing to end", x.end(), STATE);
        x.round(2);
        x.round(3);
        due.is("22: the inner one", x.end(), 2);
        due.is("22: the outer one", x.end(), 3);
        due.is("22: none left", x.end(), STATE);
        due.is("22: kind", x.kind(2), 6);
        // outer, then twice (inner, three ENDS, END)
        due.is("22: steps", x.run(), 1 + 2 * (1 + 3 + 1));
    }

    private static void store() {
        SpinBench x = new SpinBench(1);
        due.is("23: first", x.store(0, -3), 0);
        due.is("23: last", x.store(7, 3), 1);
        due.is("23: by 0", x.store(7, 0), 2);
        due.is("23: WORK", x.store(-1, 1), BAD);
        due.is("23: SHELF 8", x.store(8, 1), BAD);
        due.is("23: by 4", x.store(0, 4), BAD);
        due.is("23: by -4", x.store(0, -4), BAD);
        due.is("23: kind", x.kind(1), 7);
    }

    private static void back() {
        SpinBench x = new SpinBench(1);
        due.is("24: none", x.back(), STATE);
        x.pulse(1, 0, 1);
        x.round(2);
        x.round(3);
        x.delay(1, 0, 1);
        x.end();
        x.end();
        int[] open = {1, 2, 2, 1, 0, 0};
        for (int left = 5; left >= 0; left--) {
            due.is("24: left", x.back(), left);
            due.is("24: OPS", x.count(1), left);
            due.is("24: open with " + left, x.count(3), open[5 - left]);
            due.is("24: it went", x.kind(left), BAD);
        }
        due.is("24: none again", x.back(), STATE);
        x.round(2);
        x.round(3);
        x.end();
        x.end();
        x.back();
        x.back();
        // the inner ROUND is open again, and ended anew
        x.pulse(1, 0, 0);
        due.is("24: inner end", x.end(), 3);
        due.is("24: outer end", x.end(), 4);
        due.is("24: run", x.run(), 1 + 2 * (1 + 3 * 2 + 1));
        x.back();
        x.back();
        x.back();
        x.back();
        due.is("24: the inner ROUND went", x.count(3), 1);
        due.is("24: the outer one is ended", x.end(), 1);
        due.is("24: run of the outer one", x.run(), 3);
    }

    private static void full() {
        SpinBench x = new SpinBench(1);
        x.round(1);
        for (int i = 1; i < 39; i++) {
            due.is("18: " + i, x.pulse(1, 0, 0), i);
        }
        due.is("21: the 40th", x.round(1), 39);
        due.is("18: FULL", x.pulse(1, 0, 0), FULL);
        due.is("18: BAD ahead of FULL", x.pulse(2, 0, 0), BAD);
        due.is("19: FULL", x.cycled(1, 0, 0, 0), FULL);
        due.is("19: BAD ahead of FULL", x.cycled(1, 0, 0, 8), BAD);
        due.is("20: FULL", x.delay(1, 0, 1), FULL);
        due.is("20: BAD ahead of FULL", x.delay(4, 0, 1), BAD);
        due.is("21: FULL", x.round(1), FULL);
        due.is("21: BAD ahead of FULL", x.round(0), BAD);
        due.is("22: FULL", x.end(), FULL);
        due.is("23: FULL", x.store(0, 1), FULL);
        due.is("23: BAD ahead of FULL", x.store(8, 1), BAD);
        due.is("32: OPS", x.count(1), 40);
        due.is("32: open", x.count(3), 2);
        due.is("24: one goes", x.back(), 39);
        due.is("22: room again", x.end(), 39);
        due.is("22: STATE ahead of FULL", x.end(), STATE);
        due.is("30: run", x.run(), 40);
        SpinBench y = new SpinBench(1);
        for (int i = 0; i < 37; i++) {
            y.pulse(1, 0, 0);
        }
        y.round(1);
        y.round(1);
        y.round(1);
        due.is("21: STATE ahead of FULL", y.round(1), STATE);
    }

    /** One OP of each KIND, on three SPINS. */
    private static SpinBench each() {
        SpinBench x = new SpinBench(3);
        x.round(6);
        x.pulse(5, 1, 1);
        x.cycled(7, 2, 1, 4);
        x.delay(9, 3, -1);
        x.store(5, -2);
        x.end();
        return x;
    }

    private static void kinds() {
        SpinBench x = each();
        int[] kinds = {5, 2, 3, 4, 7, 6};
        int[][] are = {{0, 5}, {0, 1, 2}, {0, 1, 2, 3}, {0, 1, 4}, {0, 7}, {0, 6}};
        for (int op = 0; op < 6; op++) {
            due.is("25: kind of " + op, x.kind(op), kinds[op]);
            for (int kind = 0; kind < 8; kind++) {
                int want = 0;
                for (int one : are[op]) {
                    want = one == kind ? 1 : want;
                }
                due.is("26: is(" + op + ", " + kind + ")", x.is(op, kind), want);
            }
            due.is("26: KIND 8", x.is(op, 8), BAD);
            due.is("26: KIND -1", x.is(op, -1), BAD);
        }
        due.is("25: OP 6", x.kind(6), BAD);
        due.is("25: OP -1", x.kind(-1), BAD);
        due.is("26: OP 6", x.is(6, 0), BAD);
        due.is("26: OP -1", x.is(-1, 0), BAD);
    }

    private static void spins() {
        SpinBench x = each();
        int[] sets = {KIND, 5, 7, KIND, KIND, KIND};
        for (int op = 0; op < 6; op++) {
            due.is("27: spins of " + op, x.spins(op), sets[op]);
            due.is("27: status of " + op, x.status(), sets[op] == KIND ? 3 : 0);
        }
        due.is("27: OP 6", x.spins(6), BAD);
        due.is("27: OP -1", x.spins(-1), BAD);
        due.is("27: status as it was", x.status(), 3);
    }

    private static void asked(SpinBench x, int op, int what, int answer, int... bodies) {
        due.is("28: ask(" + op + ", " + what + ")", x.ask(op, what), answer);
        for (int i = 0; i < 18; i++) {
            due.is("29: trace(" + i + ") of ask(" + op + ", " + what + ")", x.trace(i), i < bodies.length ? bodies[i] : NONE);
        }
    }

    private static void ask() {
        SpinBench x = each();
        due.is("29: none yet", x.trace(0), NONE);
        asked(x, 0, 0, 6, 14);
        asked(x, 0, 1, 0, 20);
        asked(x, 1, 0, 4, 12, 11, 10);
        asked(x, 1, 1, 5, 21, 20, 12, 11, 10);
        asked(x, 2, 0, 10, 13, 12, 11, 10, 23);
        asked(x, 2, 1, 4, 23);
        asked(x, 3, 0, 2, 11, 10);
        asked(x, 3, 1, 8, 22, 21, 20, 11, 10);
        asked(x, 4, 0, 1, 10);
        asked(x, 4, 1, 9, 24, 20);
        asked(x, 5, 0, 1, 10);
        asked(x, 5, 1, 5, 20);
        due.is("28: OP 6", x.ask(6, 0), BAD);
        due.is("28: OP -1", x.ask(-1, 0), BAD);
        due.is("28: what 2", x.ask(0, 2), BAD);
        due.is("28: what -1", x.ask(0, -1), BAD);
        due.is("29: a refusal changes nothing", x.trace(0), 20);
        due.is("29: -1", x.trace(-1), NONE);
        due.is("29: far off", x.trace(Integer.MAX_VALUE), NONE);
        due.is("29: far below", x.trace(Integer.MIN_VALUE), NONE);
        due.is("33: asks leave it", x.status(), 0);
    }

    /** WORK of one TERM without letters. */
    private static void workIs(String what, SpinBench x, long number, int product) {
        due.is(what + ": terms", x.terms(-1), 1);
        due.is(what + ": number", x.number(-1, 0), number);
        due.is(what + ": product", x.power(-1, 0, -1), product);
    }

    private static void runOfPulses() {
        // a quarter about x, y, -x, -y of z: -y, x, y, -x
        int[] product = {Y, X, Y, X};
        int[] sign = {-1, 1, 1, -1};
        for (int f = 0; f < 4; f++) {
            for (int q = 0; q < 4; q++) {
                SpinBench x = new SpinBench(2);
                x.add(-1, 4 * Z, 3);
                x.pulse(2, f, q);
                due.is("30: one step", x.run(), 1);
                int turned = (q & 1) == 0 ? Z : product[f];
                int way = q == 0 ? 1 : q == 2 ? -1 : q == 1 ? sign[f] : -sign[f];
                workIs("30: f " + f + " q " + q, x, 3 * way, 4 * turned);
            }
        }
        SpinBench x = new SpinBench(4);
        x.add(-1, Z + 4 * Z + 16 * Z + 64 * Z, 1);
        x.pulse(13, 0, 1);
        x.run();
        workIs("30: three of four SPINS", x, -1, Y + 4 * Z + 16 * Y + 64 * Y);
        due.is("30: nothing to turn", new SpinBench(1).run(), 0);
    }

    private static void runOfCycles() {
        int[] product = {Y, X, Y, X};
        int[] sign = {-1, 1, 1, -1};
        int[] items = {0, 1, 2, 3, 4, -1, -2, -3, -4, 127, -128, Integer.MAX_VALUE, Integer.MIN_VALUE};
        for (int item : items) {
            for (int f = 0; f < 4; f++) {
                SpinBench x = new SpinBench(1);
                x.table(6, 2, 1);
                x.set(6, 0, item);
                x.add(-1, Z, 1);
                x.cycled(1, f, 1, 6);
                due.is("30: one step", x.run(), 1);
                int phase = (int) Math.floorMod((long) f + item, 4L);
                workIs("30: f " + f + " and " + item, x, sign[phase], product[phase]);
            }
        }
        SpinBench x = new SpinBench(1);
        x.table(0, 0, 3);
        x.set(0, 1, 1);
        x.set(0, 2, 2);
        x.add(-1, Z, 1);
        x.round(3);
        x.cycled(1, 0, 1, 0);
        x.store(1, 1);
        x.end();
        due.is("30: a ROUND of three", x.run(), 10);
        // z to -y; about y -y stays; about -x y turns to -z, so -y to z
        workIs("30: by items in turn", x, 1, Z);
        due.is("30: stored two of them", x.terms(1), 2);
        due.is("30: -y twice", x.number(1, 0), -2);
    }

    /** The innermost ROUND counts, from 0 each time it is come to; outside of it the outer one. */
    private static void runOfNestedCycles() {
        SpinBench x = new SpinBench(1);
        x.table(0, 0, 2);
        x.table(1, 0, 3);
        x.add(-1, Z, 1);
        x.round(3);
        x.cycled(1, 0, 0, 1);
        x.round(2);
        x.cycled(1, 0, 0, 0);
        x.end();
        x.cycled(1, 0, 0, 1);
        x.end();
        due.is("30: places of both TABLES are enough", x.run(), 1 + 3 * (1 + 1 + 2 * 2 + 1 + 1));
        x.cycled(1, 0, 0, 2);
        x.table(2, 0, 1);
        due.is("30: ITEM 0 without a ROUND", x.run(), 26);
        x.table(1, 0, 2);
        due.is("30: the third ITEM of the outer ROUND", x.run(), PLACE);
        due.is("31: steps", x.told(0), 1 + 2 * 8);
        due.is("31: place", x.told(1), 1);
        x.table(1, 0, 3);
        x.table(0, 0, 1);
        due.is("30: the second ITEM of the inner ROUND", x.run(), PLACE);
        due.is("31: steps", x.told(0), 5);
        due.is("31: place", x.told(1), 3);
    }

    private static void runOfDelaysAndStores() {
        SpinBench x = new SpinBench(2);
        x.add(-1, X, 1);
        x.add(4, X, 1);
        x.delay(15, 2, -1);
        x.store(4, -3);
        due.is("30: two steps", x.run(), 2);
        due.is("30: WORK", x.terms(-1), 2);
        due.is("30: cosine", x.power(-1, 0, 4), 1);
        due.is("30: sine", x.power(-1, 1, 5), 1);
        due.is("30: minus", x.number(-1, 1), -1);
        due.is("30: SHELF", x.terms(4), 3);
        due.is("30: what was there", x.number(4, 0), 1);
        due.is("30: minus three", x.number(4, 1), -3);
        due.is("30: three", x.number(4, 2), 3);
        SpinBench y = new SpinBench(2);
        y.add(-1, X, 1);
        y.add(0, X, 5);
        y.store(0, 0);
        due.is("30: by 0", y.run(), 1);
        due.is("30: nothing added", y.number(0, 0), 5);
        // what a round of phases leaves of x: +x +y -x -y added with +1 each is nothing
        SpinBench z = new SpinBench(1);
        z.add(-1, X, 1);
        z.round(4);
        z.store(0, 1);
        z.delay(0, 0, 1);
        z.end();
        z.back();
        z.back();
        z.pulse(1, 1, 1);
        z.end();
        due.is("30: a round of phases", z.run(), 13);
        due.is("30: cancelled", z.terms(0), 0);
        workIs("30: once around", z, 1, X);
    }

    private static void runOfRounds() {
        for (int often = 1; often <= 8; often++) {
            SpinBench x = new SpinBench(1);
            x.add(-1, Z, 1);
            x.round(often);
            x.store(3, 1);
            x.end();
            due.is("30: often " + often, x.run(), 1 + 2 * often);
            due.is("30: stored", x.number(3, 0), often);
            due.is("31: last", x.told(1), 2);
        }
        SpinBench x = new SpinBench(1);
        x.add(-1, Z, 1);
        x.round(2);
        x.round(3);
        x.store(3, 1);
        x.end();
        x.round(4);
        x.store(4, 1);
        x.end();
        x.end();
        x.store(5, 1);
        due.is("30: beside each other", x.run(), 1 + 2 * (1 + 6 + 1 + 8 + 1) + 1);
        due.is("30: six", x.number(3, 0), 6);
        due.is("30: eight", x.number(4, 0), 8);
        due.is("30: one", x.number(5, 0), 1);
        due.is("30: again", x.run(), 36);
        due.is("30: twelve", x.number(3, 0), 12);
    }

    private static void runLimit() {
        SpinBench x = new SpinBench(1);
        x.add(-1, Z, 1);
        x.round(8);
        x.round(8);
        for (int i = 0; i < 6; i++) {
            x.store(0, 1);
        }
        x.end();
        for (int i = 0; i < 5; i++) {
            x.store(1, 1);
        }
        x.end();
        due.is("30: 1 + 8 (1 + 8 * 7 + 5 + 1) = 505", x.run(), FULL);
        due.is("31: 500", x.told(0), 500);
        due.is("30: SHELVES as they were", x.terms(0), 0);
        SpinBench y = new SpinBench(1);
        y.add(-1, Z, 1);
        y.round(8);
        y.round(8);
        for (int i = 0; i < 6; i++) {
            y.store(0, 1);
        }
        y.end();
        y.end();
        int steps = 1 + 8 * (1 + 8 * 7 + 1);
        due.is("30: 465", y.run(), steps);
        due.is("30: stored", y.number(0, 0), 8 * 8 * 6);
        int more = 0;
        for (int place = 10; place < 40 && steps + more < 500; place++) {
            due.is("30: place", y.store(1, 1), place);
            more++;
        }
        due.is("30: up to 495", y.run(), 495);
    }

    private static void runFull() {
        SpinBench x = new SpinBench(1);
        x.add(-1, X, 1);
        x.add(2, Y, 4);
        x.store(2, 1);
        x.round(8);
        x.round(8);
        x.delay(Z, 0, 1);
        x.end();
        x.end();
        x.table(0, 0, 0);
        x.set(0, 0, 0);
        due.is("30: powers beyond", x.run(), FULL);
        // store, round, round, 8 (delay, end), end, round, 4 (delay, end): the 13th delay is FULL
        due.is("31: steps", x.told(0), 1 + 2 + 16 + 1 + 1 + 8);
        due.is("31: the delay", x.told(1), 3);
        due.is("33: as it was", x.status(), 2);
        workIs("30: WORK as it was", x, 1, X);
        due.is("30: SHELF as it was", x.terms(2), 1);
        due.is("30: its number", x.number(2, 0), 4);
        SpinBench y = new SpinBench(1);
        y.add(-1, X, 1000000000);
        for (int i = 0; i < 10; i++) {
            y.store(0, 3);
        }
        y.round(8);
        y.round(8);
        y.store(0, 3);
        y.store(0, 3);
        y.store(0, 3);
        y.store(0, 3);
        y.store(0, 3);
        y.store(0, 3);
        y.end();
        y.end();
        due.is("30: numbers beyond", y.run(), FULL);
        // 333 STORES of 3 10^9 are 999 10^9; the 334th is beyond: 10, then 323 of the 384 in the ROUNDS
        due.is("31: steps", y.told(0), 10 + 1 + 6 * (1 + 8 * 7 + 1) + 1 + 5 * 7 + 5);
        due.is("31: the store", y.told(1), 17);
        due.is("30: SHELF as it was", y.terms(0), 0);
    }

    private static void runFound() {
        SpinBench x = new SpinBench(1);
        x.add(-1, Z, 1);
        x.pulse(1, 0, 1);
        x.store(0, 1);
        x.cycled(1, 0, 0, 3);
        x.store(1, 1);
        due.is("30: missing", x.run(), NULL);
        due.is("33: NULL", x.status(), 1);
        due.is("31: steps", x.told(0), 2);
        due.is("31: place", x.told(1), 2);
        workIs("30: WORK as it was", x, 1, Z);
        due.is("30: SHELF as it was", x.terms(0), 0);
        x.table(3, 1, 0);
        due.is("33: none", x.status(), 0);
        due.is("30: empty", x.run(), PLACE);
        due.is("33: PLACE", x.status(), 2);
        x.table(3, 1, 1);
        due.is("30: there", x.run(), 4);
        due.is("33: none", x.status(), 0);
        workIs("30: WORK", x, -1, Y);
        due.is("30: SHELF", x.number(1, 0), -1);
    }

    /** Of a FULL and a FINDING in one PROGRAM the one that a RUN comes to first ends it. */
    private static void fullAndFindings() {
        SpinBench x = new SpinBench(1);
        x.cycled(1, 0, 0, 0);
        x.round(8);
        x.round(8);
        x.round(8);
        x.end();
        x.end();
        x.end();
        due.is("30: a missing TABLE ahead of too many STEPS", x.run(), NULL);
        due.is("31: steps", x.told(0), 0);
        due.is("31: place", x.told(1), 0);
        x.table(0, 0, 1);
        due.is("30: too many STEPS", x.run(), FULL);
    }

    private static void told() {
        SpinBench x = new SpinBench(1);
        due.is("31: no RUN, steps", x.told(0), 0);
        due.is("31: no RUN, place", x.told(1), NONE);
        due.is("31: 2", x.told(2), BAD);
        due.is("31: -1", x.told(-1), BAD);
        due.is("30: nothing", x.run(), 0);
        due.is("31: nothing", x.told(1), NONE);
        x.pulse(1, 0, 1);
        x.pulse(1, 0, 1);
        x.run();
        due.is("31: steps", x.told(0), 2);
        due.is("31: place", x.told(1), 1);
        x.round(2);
        due.is("30: not ended", x.run(), STATE);
        due.is("31: steps of the RUN ahead", x.told(0), 2);
        due.is("31: place of the RUN ahead", x.told(1), 1);
        x.back();
        x.back();
        x.back();
        due.is("31: as it was", x.told(1), 1);
        due.is("30: nothing again", x.run(), 0);
        due.is("31: no steps", x.told(0), 0);
        due.is("31: none begun", x.told(1), NONE);
    }

    private static void count() {
        SpinBench x = each();
        due.is("32: SPINS", x.count(0), 3);
        due.is("32: OPS", x.count(1), 6);
        due.is("32: TABLES", x.count(2), 0);
        x.table(2, 0, 0);
        x.table(3, 0, 5);
        x.table(3, 1, 4);
        due.is("32: two TABLES", x.count(2), 2);
        x.drop(2);
        due.is("32: one TABLE", x.count(2), 1);
        due.is("32: ended", x.count(3), 0);
        x.round(1);
        due.is("32: one ROUND", x.count(3), 1);
        x.add(-1, 5, 1);
        x.add(0, 5, 1);
        x.add(0, 6, 1);
        x.add(7, 6, 1);
        due.is("32: TERMS", x.count(4), 4);
        due.is("32: 5", x.count(5), BAD);
        due.is("32: -1", x.count(-1), BAD);
    }

    private static void status() {
        SpinBench x = each();
        x.run();
        due.is("33: NULL by run()", x.status(), 1);
        x.spins(1);
        due.is("33: none by spins()", x.status(), 0);
        x.spins(0);
        due.is("33: KIND", x.status(), 3);
        x.round(1);
        x.run();
        due.is("33: as it was after STATE", x.status(), 3);
        x.end();
        x.table(4, 0, 6);
        x.spins(0);
        x.run();
        due.is("33: none by run()", x.status(), 0);
    }
}
