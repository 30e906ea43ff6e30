/** Promises 6 to 17: ordinary calls, edges, wrong calls. */
public final class SumPromisesTest {
    private static final int BAD = SpinBench.BAD, FULL = SpinBench.FULL;
    private static final int X = 1, Y = 2, Z = 3;
    private static final Due due = new Due("SumPromisesTest");

    public static void main(String[] args) {
        clear();
        add();
        addNumbersBeyond();
        addTermsBeyond();
        take();
        join();
        joinTermsBeyond();
        quarter();
        quarterOfPairs();
        letter();
        letterOfPairs();
        letterCancelsPowersBeyond();
        letterBeyond();
        readTerms();
        order();
        same();
        product();
        productBeyond();
        productRows();
        digest();
        due.end();
    }

    /** TERM t of a shelf is number times PRODUCT with powers of C0, S0, .. as far as they are told. */
    private static void term(String what, SpinBench x, int shelf, int t, long number, int product, int... powers) {
        due.is(what + ": number", x.number(shelf, t), number);
        due.is(what + ": product", x.power(shelf, t, -1), product);
        for (int v = 0; v < 8; v++) {
            due.is(what + ": power " + v, x.power(shelf, t, v), v < powers.length ? powers[v] : 0);
        }
    }

    private static void clear() {
        SpinBench x = new SpinBench(2);
        for (int shelf = -1; shelf < 8; shelf++) {
            x.add(shelf, X, 1);
            x.add(shelf, Y, 1);
        }
        due.is("6: count ahead", x.count(4), 18);
        for (int shelf = -1; shelf < 8; shelf++) {
            due.is("6: had two", x.clear(shelf), 2);
            due.is("6: has none", x.clear(shelf), 0);
            due.is("6: terms", x.terms(shelf), 0);
            due.is("6: count", x.count(4), 18 - 2 * (shelf + 2));
        }
        due.is("6: shelf 8", x.clear(8), BAD);
        due.is("6: shelf -2", x.clear(-2), BAD);
    }

    private static void add() {
        SpinBench x = new SpinBench(2);
        due.is("7: one", x.add(3, 15, -4), 1);
        due.is("7: nothing", x.add(3, 14, 0), 1);
        due.is("7: another one", x.add(3, 0, 9), 2);
        due.is("7: to the same", x.add(3, 15, 5), 2);
        term("7: first", x, 3, 0, 9, 0);
        term("7: second", x, 3, 1, 1, 15);
        due.is("7: away", x.add(3, 15, -1), 1);
        due.is("7: least", x.add(3, 1, Integer.MIN_VALUE), 2);
        term("7: least", x, 3, 1, Integer.MIN_VALUE, 1);
        due.is("7: PRODUCT 16", x.add(3, 16, 1), BAD);
        due.is("7: PRODUCT -1", x.add(3, -1, 1), BAD);
        due.is("7: shelf 8", x.add(8, 1, 1), BAD);
        due.is("7: shelf -2", x.add(-2, 1, 1), BAD);
        due.is("7: as it was", x.terms(3), 2);
    }

    private static void addNumbersBeyond() {
        SpinBench x = new SpinBench(1);
        Build.most(x, 0, X);
        due.is("7: most", x.number(0, 0), 1000000000000L);
        due.is("7: one more", x.add(0, X, 1), FULL);
        due.is("7: as it was", x.number(0, 0), 1000000000000L);
        due.is("7: one less", x.add(0, X, -1), 1);
        due.is("7: up again", x.add(0, X, 1), 1);
        due.is("7: two more", x.add(0, X, 2), FULL);
        due.is("7: to minus", x.join(1, 0, -1), 1);
        due.is("7: least", x.number(1, 0), -1000000000000L);
        due.is("7: one less than least", x.add(1, X, -1), FULL);
        due.is("7: another product", x.add(1, Y, -1), 2);
        due.is("33: no status of FULL", x.status(), 0);
    }

    private static void addTermsBeyond() {
        SpinBench x = new SpinBench(4);
        for (int p = 255; p >= 0; p--) {
            due.is("7: " + p, x.add(-1, p, p + 1), 256 - p);
        }
        due.is("7: all terms", x.terms(-1), 256);
        x.take(0, -1);
        x.clear(-1);
        for (int p = 0; p < 44; p++) {
            x.add(-1, 3 + 4 * p, 1);
        }
        due.is("7: 44 turned", x.letter(1, 0, 1), 88);
        due.is("9: 256 and 88 are beyond", x.join(0, -1, 1), FULL);
        due.is("9: as it was", x.terms(0), 256);
        x.clear(-1);
        for (int p = 0; p < 22; p++) {
            x.add(-1, 3 + 4 * p, 1);
        }
        due.is("7: 22 turned", x.letter(1, 0, 1), 44);
        due.is("9: 256 and 44", x.join(0, -1, 1), 300);
        x.clear(-1);
        x.add(-1, 3 + 4 * 30, 1);
        x.letter(1, 0, 1);
        due.is("9: 300 and 2", x.join(0, -1, 1), FULL);
        due.is("7: an old one still comes", x.add(0, 5, 1), 300);
        due.is("7: one goes", x.add(0, 0, -1), 299);
        due.is("7: one comes", x.add(0, 0, 7), 300);
        x.add(0, 0, -7);
        x.add(0, 1, -2);
        due.is("9: 298 and 2", x.join(0, -1, 1), 300);
        due.is("7: 301", x.add(0, 0, 1), FULL);
        due.is("12: 300", x.terms(0), 300);
        x.take(-1, 0);
        due.is("11: beyond 300", x.letter(1, 1, 1), FULL);
        due.is("11: as it was", x.same(-1, 0), 1);
        due.is("10: a quarter of 300", x.quarter(1, 1), 300);
        due.is("10: back", x.quarter(1, 3), 300);
        due.is("10: the same", x.same(-1, 0), 1);
    }

    private static void take() {
        SpinBench x = new SpinBench(1);
        x.add(-1, X, 5);
        x.letter(Z, 2, -1);
        due.is("8: from WORK", x.take(7, -1), 2);
        due.is("8: itself", x.take(7, 7), 2);
        due.is("8: to another", x.take(0, 7), 2);
        due.is("8: the same", x.same(0, -1), 1);
        x.add(0, X, 1);
        due.is("8: each for itself", x.terms(7), 2);
        due.is("8: an empty one", x.take(0, 5), 0);
        due.is("8: empty", x.terms(0), 0);
        due.is("8: shelf 8", x.take(8, 0), BAD);
        due.is("8: shelf -2", x.take(0, -2), BAD);
    }

    private static void join() {
        SpinBench x = new SpinBench(2);
        x.add(0, X, 2);
        x.add(0, Z, 3);
        x.add(1, X, 1);
        x.add(1, Y, 10);
        for (int number = -3; number <= 3; number++) {
            x.take(2, 0);
            int terms = number == 0 ? 2 : number == -2 ? 2 : 3;
            due.is("9: times " + number, x.join(2, 1, number), terms);
            if (number == -2) {
                term("9: the first went", x, 2, 0, -20, Y);
            } else {
                term("9: first", x, 2, 0, 2 + number, X);
            }
            term("9: last", x, 2, terms - 1, 3, Z);
        }
        due.is("9: times 4", x.join(2, 1, 4), BAD);
        due.is("9: times -4", x.join(2, 1, -4), BAD);
        due.is("9: to 8", x.join(8, 1, 1), BAD);
        due.is("9: from -2", x.join(1, -2, 1), BAD);
        due.is("9: itself", x.join(0, 0, 3), 2);
        term("9: four times", x, 0, 0, 8, X);
        due.is("9: itself away", x.join(0, 0, -1), 0);
        Build.most(x, 3, X);
        x.take(4, 3);
        due.is("9: beyond", x.join(4, 3, 1), FULL);
        due.is("9: as it was", x.same(4, 3), 1);
        due.is("9: twice less is not beyond, all added up", x.join(4, 3, -2), 1);
        due.is("9: minus", x.number(4, 0), -1000000000000L);
        due.is("9: three more are beyond", x.join(4, 3, 3), FULL);
        due.is("9: two more", x.join(4, 3, 2), 1);
    }

    private static void joinTermsBeyond() {
        SpinBench x = new SpinBench(4);
        for (int p = 0; p < 200; p++) {
            x.add(0, p, 1);
            x.add(1, 255 - p, -1);
        }
        due.is("9: 256 of 400", x.join(0, 1, 2), 256);
        due.is("9: the middle has both", x.number(0, 100), -1);
        due.is("9: minus", x.join(0, 1, -2), 200);
    }

    private static void quarter() {
        // about x, y, z by one quarter: what comes of x, y, z (minus: its sign).
        int[][] one = {{X, Z, -Y}, {-Z, Y, X}, {Y, -X, Z}};
        for (int g = 1; g <= 3; g++) {
            for (int p = 1; p <= 3; p++) {
                int there = one[g - 1][p - 1];
                for (int q = 0; q < 4; q++) {
                    SpinBench x = new SpinBench(1);
                    x.add(-1, p, 7);
                    due.is("10: terms", x.quarter(g, q), 1);
                    boolean stays = g == p || (q & 1) == 0;
                    long sign = g == p ? 1 : q == 2 ? -1 : q == 0 ? 1 : (there > 0 ? 1 : -1) * (q == 1 ? 1 : -1);
                    term("10: about " + g + " of " + p + " by " + q, x, -1, 0, 7 * sign,
                            stays ? p : Math.abs(there));
                }
            }
        }
        SpinBench x = new SpinBench(1);
        x.add(-1, 0, 4);
        due.is("10: of none", x.quarter(X, 1), 1);
        term("10: of none", x, -1, 0, 4, 0);
        x.add(-1, Y, 2);
        due.is("10: about none", x.quarter(0, 3), 2);
        term("10: about none", x, -1, 1, 2, Y);
        due.is("10: PRODUCT 4", x.quarter(4, 1), BAD);
        due.is("10: PRODUCT -1", x.quarter(-1, 1), BAD);
        due.is("10: q 4", x.quarter(1, 4), BAD);
        due.is("10: q -1", x.quarter(1, -1), BAD);
        due.is("10: of nothing", new SpinBench(3).quarter(63, 1), 0);
    }

    private static void quarterOfPairs() {
        SpinBench x = new SpinBench(2);
        x.add(-1, X, 1);
        due.is("10: zz of x", x.quarter(15, 1), 1);
        term("10: x to yz", x, -1, 0, 1, Y + 4 * Z);
        x.quarter(15, 1);
        term("10: yz to -x", x, -1, 0, -1, X);
        x.clear(-1);
        x.add(-1, X + 4 * X, 1);
        x.quarter(15, 1);
        term("10: xx FITS zz", x, -1, 0, 1, X + 4 * X);
        x.clear(-1);
        x.add(-1, Y + 4 * Z, 1);
        x.quarter(X + 4 * Z, 1);
        // x y is one more, z z none; one less: +.
        term("10: yz about xz to z", x, -1, 0, 1, Z);
        SpinBench three = new SpinBench(3);
        three.add(-1, Y + 4 * Z + 16 * X, 1);
        three.quarter(X + 4 * Y + 16 * Z, 1);
        // xy, yz, zx: three more, one less: two: -.
        term("10: three unlike axes", three, -1, 0, -1, Z + 4 * X + 16 * Y);
        three.quarter(X + 4 * Y + 16 * Z, 1);
        term("10: and back to minus", three, -1, 0, -1, Y + 4 * Z + 16 * X);
        SpinBench four = new SpinBench(4);
        four.add(-1, 4 * Y + 16 * X + 64 * X, 3);
        four.quarter(X + 4 * X + 16 * Y + 64 * Z, 1);
        // xy one more, yx one less, zx one more: one; one less: +.
        term("10: four spins", four, -1, 0, 3, X + 4 * Z + 16 * Z + 64 * Y);
    }

    private static void letter() {
        SpinBench x = new SpinBench(1);
        x.add(-1, X, 5);
        for (int k = 0; k < 4; k++) {
            for (int way = -1; way <= 1; way += 2) {
                x.take(0, -1);
                due.is("11: two", x.letter(Z, k, way), 2);
                int[] cosine = new int[8];
                cosine[2 * k] = 1;
                int[] sine = new int[8];
                sine[2 * k + 1] = 1;
                term("11: cosine", x, -1, 0, 5, X, cosine);
                term("11: sine", x, -1, 1, 5 * way, Y, sine);
                due.is("11: back", x.letter(Z, k, -way), 1);
                term("11: back", x, -1, 0, 5, X);
            }
        }
        x.letter(Z, 1, 1);
        due.is("11: twice", x.letter(Z, 1, 1), 3);
        // x: C1 C1 - S1 S1 = 2 C1 C1 - 1; y: 2 C1 S1.
        term("11: 1", x, -1, 0, -5, X);
        term("11: C1 C1", x, -1, 1, 10, X, 0, 0, 2);
        term("11: C1 S1", x, -1, 2, 10, Y, 0, 0, 1, 1);
        due.is("11: about none", x.letter(0, 0, 1), 3);
        due.is("11: PRODUCT 4", x.letter(4, 0, 1), BAD);
        due.is("11: PRODUCT -1", x.letter(-1, 0, 1), BAD);
        due.is("11: LETTER 4", x.letter(1, 4, 1), BAD);
        due.is("11: LETTER -1", x.letter(1, -1, 1), BAD);
        due.is("11: way 0", x.letter(1, 0, 0), BAD);
        due.is("11: way 2", x.letter(1, 0, 2), BAD);
        due.is("11: way -2", x.letter(1, 0, -2), BAD);
        due.is("11: as it was", x.terms(-1), 3);
    }

    private static void letterOfPairs() {
        SpinBench x = new SpinBench(2);
        x.add(-1, X, 1);
        x.add(-1, X + 4 * X, 1);
        due.is("11: a coupling", x.letter(15, 3, -1), 3);
        term("11: x", x, -1, 0, 1, X, 0, 0, 0, 0, 0, 0, 1);
        term("11: xx stays", x, -1, 1, 1, X + 4 * X);
        term("11: yz", x, -1, 2, -1, Y + 4 * Z, 0, 0, 0, 0, 0, 0, 0, 1);
        x.clear(-1);
        x.add(-1, Y, 1);
        x.letter(15, 0, 1);
        x.quarter(1, 2);
        x.letter(15, 0, 1);
        due.is("11: one half turn refocuses", x.terms(-1), 1);
        term("11: -y", x, -1, 0, -1, Y);
    }

    /** C0^12 S0 turned back and on again stays within, though C0^14 comes up on the way. */
    private static void letterCancelsPowersBeyond() {
        SpinBench x = new SpinBench(1);
        x.add(-1, X, 1);
        for (int i = 0; i < 12; i++) {
            due.is("11: up", x.letter(Z, 0, 1), i == 0 ? 2 : i + 2);
        }
        x.take(0, -1);
        due.is("11: has C0^12", Build.greatestPower(x, -1, 0), 12);
        due.is("11: C0^13", x.letter(Z, 0, 1), FULL);
        due.is("11: as it was", x.same(0, -1), 1);
        due.is("11: backwards the powers beyond add up to 0", x.letter(Z, 0, -1), 12);
        due.is("11: C0^11 is left", Build.greatestPower(x, -1, 0), 11);
        due.is("11: another LETTER", x.letter(Z, 1, 1), 24);
        for (int i = 0; i < 11; i++) {
            x.letter(Z, 0, -1);
        }
        x.letter(Z, 1, -1);
        due.is("11: all the way back", x.terms(-1), 1);
        term("11: x again", x, -1, 0, 1, X);
    }

    private static void letterBeyond() {
        SpinBench x = new SpinBench(1);
        Build.most(x, -1, X);
        due.is("11: most", x.letter(Z, 0, 1), 2);
        x.take(0, -1);
        due.is("11: 2 10^12 C0 S0", x.letter(Z, 0, 1), FULL);
        due.is("11: as it was", x.same(0, -1), 1);
        due.is("11: back", x.letter(Z, 0, -1), 1);
        due.is("11: most again", x.number(-1, 0), 1000000000000L);
        due.is("10: minus most", x.quarter(Y, 2), 1);
        due.is("10: least", x.number(-1, 0), -1000000000000L);
    }

    private static void readTerms() {
        SpinBench x = new SpinBench(2);
        due.is("12: none", x.terms(4), 0);
        due.is("12: shelf 8", x.terms(8), BAD);
        due.is("12: shelf -2", x.terms(-2), BAD);
        due.is("13: no TERM", x.number(4, 0), BAD);
        x.add(4, 9, 3);
        due.is("12: one", x.terms(4), 1);
        due.is("13: TERM 0", x.number(4, 0), 3);
        due.is("13: TERM 1", x.number(4, 1), BAD);
        due.is("13: TERM -1", x.number(4, -1), BAD);
        due.is("13: TERM far off", x.number(4, Integer.MIN_VALUE), BAD);
        due.is("13: shelf 8", x.number(8, 0), BAD);
        due.is("13: shelf -2", x.number(-2, 0), BAD);
        due.is("14: PRODUCT", x.power(4, 0, -1), 9);
        due.is("14: S3", x.power(4, 0, 7), 0);
        due.is("14: 8", x.power(4, 0, 8), BAD);
        due.is("14: -2", x.power(4, 0, -2), BAD);
        due.is("14: TERM 1", x.power(4, 1, 0), BAD);
        due.is("14: TERM -1", x.power(4, -1, 0), BAD);
        due.is("14: shelf 8", x.power(8, 0, 0), BAD);
        x.clear(4);
        due.is("13: it went", x.number(4, 0), BAD);
        due.is("14: it went", x.power(4, 0, -1), BAD);
    }

    /** C0, S0, C1, S1, .. each alone at one PRODUCT: S3 is the least row but none, C0 the greatest. */
    private static void order() {
        SpinBench x = new SpinBench(1);
        for (int k = 0; k < 4; k++) {
            x.clear(-1);
            x.add(-1, X, 1);
            x.letter(Z, k, 1);
            x.join(0, -1, 1);
            x.clear(-1);
            x.add(-1, Y, -1);
            x.letter(Z, k, 1);
            x.join(0, -1, 1);
        }
        x.add(0, X, 1);
        due.is("1: nine rows at x, eight at y", x.terms(0), 17);
        term("1: none is the least", x, 0, 0, 1, X);
        for (int t = 1; t <= 8; t++) {
            int v = 8 - t;
            int[] powers = new int[8];
            powers[v] = 1;
            term("1: row " + v + " at x", x, 0, t, 1, X, powers);
            term("1: row " + v + " at y", x, 0, 8 + t, v % 2 == 0 ? -1 : 1, Y, powers);
        }
    }

    private static void same() {
        SpinBench x = new SpinBench(1);
        due.is("15: both empty", x.same(0, -1), 1);
        x.add(0, X, 1);
        due.is("15: one empty", x.same(0, -1), 0);
        due.is("15: itself", x.same(0, 0), 1);
        x.add(1, X, 2);
        due.is("15: other numbers", x.same(0, 1), 0);
        x.add(1, X, -1);
        due.is("15: the same", x.same(0, 1), 1);
        x.add(2, Y, 1);
        due.is("15: other PRODUCTS", x.same(0, 2), 0);
        x.take(-1, 0);
        x.letter(Z, 0, 1);
        x.take(3, -1);
        x.take(-1, 0);
        x.letter(Z, 1, 1);
        due.is("15: other powers", x.same(3, -1), 0);
        due.is("15: shelf 8", x.same(8, 0), BAD);
        due.is("15: shelf -2", x.same(0, -2), BAD);
    }

    private static void product() {
        SpinBench x = new SpinBench(2);
        x.add(0, X, 2);
        x.add(0, Y, 3);
        x.add(1, Y, 5);
        x.add(1, Z, 7);
        due.is("16: one PRODUCT in both", x.product(2, 0, 1), 1);
        term("16: 15 at 0", x, 2, 0, 15, 0);
        due.is("16: none in both", x.product(2, 2, 0), 0);
        due.is("16: by itself", x.product(0, 0, 0), 1);
        term("16: 4 and 9", x, 0, 0, 13, 0);
        due.is("16: at 0 by itself", x.product(0, 0, 0), 1);
        term("16: 169", x, 0, 0, 169, 0);
        x.add(-1, X, 3);
        x.letter(Z, 0, 1);
        x.letter(Z, 2, -1);
        x.take(3, -1);
        due.is("16: turned by letters, it keeps its length", x.product(4, 3, 3), 1);
        term("16: 9", x, 4, 0, 9, 0);
        x.clear(5);
        x.add(5, X, 1);
        due.is("16: along x", x.product(-1, 3, 5), 2);
        // x of it: 3 C0 C2 + 3 S0 S2
        term("16: S0 S2", x, -1, 0, 3, 0, 0, 1, 0, 0, 0, 1);
        term("16: C0 C2", x, -1, 1, 3, 0, 1, 0, 0, 0, 1);
        due.is("16: squares", x.product(6, -1, -1), 5);
        // 9 (C0 C2 + S0 S2)^2 = 9 (2 C0^2 C2^2 + 1 - C0^2 - C2^2 + 2 C0 S0 C2 S2)
        term("16: 1", x, 6, 0, 9, 0);
        term("16: C2^2", x, 6, 1, -9, 0, 0, 0, 0, 0, 2);
        term("16: C0 S0 C2 S2", x, 6, 2, 18, 0, 1, 1, 0, 0, 1, 1);
        term("16: C0^2", x, 6, 3, -9, 0, 2);
        term("16: C0^2 C2^2", x, 6, 4, 18, 0, 2, 0, 0, 0, 2);
        due.is("16: to 8", x.product(8, 0, 0), BAD);
        due.is("16: a -2", x.product(0, -2, 0), BAD);
        due.is("16: b 8", x.product(0, 0, 8), BAD);
    }

    private static void productBeyond() {
        SpinBench x = new SpinBench(1);
        x.add(0, X, 1000000);
        due.is("16: 10^12", x.product(1, 0, 0), 1);
        due.is("16: 10^12 at 0", x.number(1, 0), 1000000000000L);
        x.add(0, X, 1);
        due.is("16: a number beyond", x.product(1, 0, 0), FULL);
        due.is("16: as it was", x.number(1, 0), 1000000000000L);
        Build.most(x, 2, X);
        due.is("16: far beyond what a long has", x.product(1, 2, 2), FULL);
        x.clear(3);
        x.add(3, X, -1);
        due.is("16: least", x.product(3, 2, 3), 1);
        due.is("16: -10^12", x.number(3, 0), -1000000000000L);
        // Two products of 10^12 and -10^12 add up to 0; of 10^12 twice to what is no SUM.
        x.clear(4);
        x.add(4, X, 1000000);
        x.add(4, Y, 1000000);
        x.clear(5);
        x.add(5, X, 1000000);
        x.add(5, Y, -1000000);
        due.is("16: adds up to 0", x.product(6, 4, 5), 0);
        due.is("16: adds up beyond", x.product(6, 4, 4), FULL);
        x.add(4, X, 1);
        x.add(4, Y, 1);
        due.is("16: beyond, though it adds up to 0", x.product(6, 4, 5), FULL);
        powersBeyond();
    }

    private static void powersBeyond() {
        SpinBench x = new SpinBench(1);
        x.add(-1, X, 1);
        x.letter(Z, 0, 1);
        x.add(1, X, 1);
        x.product(2, -1, 1);
        term("16: C0", x, 2, 0, 1, 0, 1);
        x.take(3, 2);
        for (int power = 2; power <= 12; power++) {
            due.is("16: C0 to the power " + power, x.product(3, 3, 2), 1);
            term("16: C0^" + power, x, 3, 0, 1, 0, power);
            if (power == 10) {
                x.take(5, 3);
            }
            if (power == 11) {
                x.take(6, 3);
            }
        }
        due.is("16: C0^13", x.product(4, 3, 2), FULL);
        due.is("16: C0^13 the other way", x.product(4, 2, 3), FULL);
        // S0: y of the turned x.
        x.clear(1);
        x.add(1, Y, 1);
        x.product(4, -1, 1);
        term("16: S0", x, 4, 0, 1, 0, 0, 1);
        due.is("16: C0^12 S0", x.product(7, 3, 4), 1);
        due.is("16: C0^12 S0 S0", x.product(7, 7, 4), FULL);
        due.is("16: C0^11 S0", x.product(7, 6, 4), 1);
        due.is("16: C0^11 S0 S0", x.product(7, 7, 4), FULL);
        due.is("16: C0^10 S0", x.product(7, 5, 4), 1);
        due.is("16: C0^10 S0 S0", x.product(7, 7, 4), 2);
        term("16: C0^10", x, 7, 0, 1, 0, 10);
        term("16: - C0^12", x, 7, 1, -1, 0, 12);
        SpinBench y = new SpinBench(1);
        y.add(-1, Z, 1);
        for (int i = 0; i < 12; i++) {
            y.letter(i % 2 == 0 ? X : Y, 0, 1);
        }
        due.is("16: C0^12 is there", Build.greatestPower(y, -1, 0), 12);
        due.is("16: its length can not be told", y.product(0, -1, -1), FULL);
    }

    private static void productRows() {
        // C0^a C1^b for a, b 0 .. 12: 169 rows; times C2, S2, 1: more than 300 unlike rows.
        SpinBench x = new SpinBench(1);
        Build.cosine(x, 0, 0);
        Build.cosine(x, 1, 1);
        x.clear(4);
        x.add(4, 0, 1);
        x.join(0, 4, 1);
        x.join(1, 4, 1);
        x.take(2, 0);
        x.take(3, 1);
        for (int i = 1; i < 12; i++) {
            x.product(2, 2, 0);
            x.product(3, 3, 1);
        }
        due.is("16: (1 + C0)^12", x.terms(2), 13);
        due.is("16: (1 + C0)^12 (1 + C1)^12", x.product(5, 2, 3), 169);
        Build.cosine(x, 0, 2);
        x.join(0, 4, 1);
        due.is("16: 338 rows", x.product(6, 5, 0), FULL);
        due.is("16: nothing came", x.terms(6), 0);
        x.clear(6);
        Build.cosine(x, 6, 2);
        due.is("16: 169 rows", x.product(6, 5, 6), 169);
        zerosCountAsRows();
        threeHundredRows();
    }

    /** (1 + C0)^11 (1 + C1)^4 times (1 + C2)^4: 12 * 5 times 5 rows; and C3, that comes of x. */
    private static void threeHundredRows() {
        SpinBench x = new SpinBench(1);
        x.add(0, 0, 1);
        x.add(1, 0, 1);
        int[] often = {11, 4, 4};
        for (int k = 0; k < 3; k++) {
            Build.cosine(x, 2, k);
            x.add(2, 0, 1);
            int shelf = k < 2 ? 0 : 1;
            for (int i = 0; i < often[k]; i++) {
                x.product(shelf, shelf, 2);
            }
        }
        due.is("16: 60 rows", x.terms(0), 60);
        due.is("16: 5 rows", x.terms(1), 5);
        due.is("16: 300 rows", x.product(2, 0, 1), 300);
        x.add(-1, X, 1);
        x.letter(Z, 3, 1);
        x.join(1, -1, 1);
        due.is("16: 300 rows, and x in one of them", x.product(2, 0, 1), 300);
        x.add(0, X, 1);
        due.is("16: 301 rows", x.product(2, 0, 1), FULL);
        due.is("16: as it was", x.terms(2), 300);
    }

    /** Rows that add up to 0 count: x and xx are turned alike, and xx has the other sign in the other factor. */
    private static void zerosCountAsRows() {
        due.is("16: 284 rows that add up to 0", squareOfTurns(4, 4, 3), 0);
        due.is("16: 365 rows that add up to 0", squareOfTurns(4, 4, 4), FULL);
        due.is("16: powers of 12 that add up to 0", squareOfTurns(6), 0);
        due.is("16: powers of 14 that add up to 0", squareOfTurns(7), FULL);
    }

    private static int squareOfTurns(int... often) {
        SpinBench x = new SpinBench(2);
        x.add(-1, X, 1);
        x.add(-1, X + 4 * X, 1);
        for (int k = 0; k < often.length; k++) {
            for (int i = 0; i < often[k]; i++) {
                due.holds("16: it is turned", x.letter(Z, k, 1) > 0);
            }
        }
        x.take(0, -1);
        x.quarter(4 * Z, 2);
        x.add(1, X, 5);
        int answer = x.product(1, 0, -1);
        due.is("16: the shelf", x.terms(1), answer == FULL ? 1 : answer);
        return answer;
    }

    private static void digest() {
        SpinBench x = new SpinBench(1);
        due.is("17: empty", x.digest(0), 17);
        x.add(-1, X, -5);
        x.letter(Z, 1, 1);
        long h = 17;
        int[][] terms = {{1, 0, 0, 1, 0, 0, 0, 0, 0, -5}, {2, 0, 0, 0, 1, 0, 0, 0, 0, -5}};
        for (int[] term : terms) {
            for (int v : term) {
                h = 31 * h + v;
            }
        }
        due.is("17: two terms", x.digest(-1), h);
        due.is("17: shelf 8", x.digest(8), BAD);
        due.is("17: shelf -2", x.digest(-2), BAD);
    }
}
