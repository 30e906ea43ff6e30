/** Sums and TABLES at their limits, made and read by calls alone. */
final class Build {
    static final int X = 1, Y = 2, Z = 3;
    static final long MOST = 1000000000000L;

    private Build() { }

    /** A shelf gets 10^12 at a PRODUCT: 10^9 times 10 times 10 times 10. SHELF 7 is used on the way. */
    static void most(SpinBench x, int shelf, int product) {
        x.clear(shelf);
        x.add(shelf, product, 1000000000);
        for (int i = 0; i < 3; i++) {
            x.take(7, shelf);
            x.join(shelf, 7, 3);
            x.join(shelf, 7, 3);
            x.join(shelf, 7, 3);
        }
        x.clear(7);
    }

    /** A shelf gets Ck at PRODUCT 0: x of what x is turned to. WORK is used on the way. */
    static void cosine(SpinBench x, int shelf, int k) {
        turned(x, shelf, k, X);
    }

    /** A shelf gets Sk at PRODUCT 0: y of what x is turned to. WORK is used on the way. */
    static void sine(SpinBench x, int shelf, int k) {
        turned(x, shelf, k, Y);
    }

    private static void turned(SpinBench x, int shelf, int k, int along) {
        x.clear(-1);
        x.add(-1, X, 1);
        x.letter(Z, k, 1);
        x.clear(shelf);
        x.add(shelf, along, 1);
        x.product(shelf, -1, shelf);
        x.clear(-1);
    }

    /** WORK gets so many PRODUCTS (128 at most, of four SPINS), none of which FITS x of SPIN 0. */
    static void spread(SpinBench x, int count) {
        x.clear(-1);
        for (int i = 0; i < count; i++) {
            x.add(-1, i < 64 ? Z + 4 * i : Y + 4 * (i - 64), 1);
        }
    }

    /** WORK gets 300 TERMS, none of whose PRODUCTS FITS x of SPIN 0; there must be four SPINS. */
    static void threeHundred(SpinBench x) {
        spread(x, 75);
        x.letter(X, 0, 1);
        x.letter(X, 1, 1);
    }

    /** ITEM 0 modulo 4, as a CYCLED PULSE about it turns z: x to -y, y to x, -x to y, -y to -x. The PROGRAM must be empty. */
    static int firstItem(SpinBench x, int table) {
        x.clear(-1);
        x.add(-1, Z, 1);
        int place = x.cycled(1, 0, 1, table);
        int steps = x.run();
        x.back();
        if (place < 0 || steps < 0) {
            return Math.min(place, steps);
        }
        int axis = x.power(-1, 0, -1);
        long number = x.number(-1, 0);
        if (axis == Y) {
            return number < 0 ? 0 : 2;
        }
        return number > 0 ? 1 : 3;
    }

    /** ITEM i modulo 4 of a TABLE of that LANE, by way of TABLE 7. */
    static int item(SpinBench x, int table, int lane, int i) {
        x.table(7, lane, 1);
        x.copy(table, i, 7, 0, 1);
        return firstItem(x, 7);
    }

    /** The greatest power v of a SUM's TERMS. */
    static int greatestPower(SpinBench x, int shelf, int v) {
        int greatest = 0;
        for (int t = 0; t < x.terms(shelf); t++) {
            greatest = Math.max(greatest, x.power(shelf, t, v));
        }
        return greatest;
    }
}
