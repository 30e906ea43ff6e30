/** Promises 6 to 17, and what is told of SUMS ahead of them: each boundary case in a test of its own. */
public final class SumEdgesTest {
    private static final int BAD = SpinBench.BAD, FULL = SpinBench.FULL;
    private static final int X = Build.X, Y = Build.Y, Z = Build.Z;
    private static final long MOST = Build.MOST;
    private static final Due due = new Due("SumEdgesTest");

    public static void main(String[] args) {
        clearOfNone();
        clearOfThreeHundred();
        addOfNothing();
        addUpToMost();
        addDownToLeast();
        addOfTheGreatestInts();
        addTheThreeHundredFirst();
        termsThatAreZeroGo();
        takeOfNone();
        takeOfThreeHundred();
        joinTimesNothing();
        joinWithItself();
        joinNumbersWithinWhenAddedUp();
        joinTermsWithinWhenAddedUp();
        joinTheThreeHundredFirst();
        quarterOfNone();
        quarterOfMost();
        quarterOfThreeHundred();
        fitsByAnEvenNumber();
        signsModuloFour();
        letterOfNone();
        letterUpToThreeHundred();
        letterBackFromThreeHundred();
        letterOfNineHundred();
        letterPowersOfEachLetter();
        letterPowersWithinWhenAddedUp();
        letterNumbersOfMost();
        readNoSuchTerm();
        readPowersOfEachKind();
        aNumberThatLooksLikeBad();
        sameOfNone();
        sameOfOneOff();
        productOfNone();
        productOntoItsOwn();
        productNumbersOfMost();
        productPowersOfAllLetters();
        productPowersBeyondThatAddUpToZero();
        productSquaresBeyondThatAddUpToZero();
        productSquaresOfAllSines();
        productRowsUpToThreeHundred();
        productRowsThatAddUpToZero();
        digestOfNone();
        digestWrapsAround();
        due.end();
    }

    /** "A SUM has no TERMS any more: how many it had." */
    private static void clearOfNone() {
        SpinBench x = new SpinBench(1);
        for (int shelf = -1; shelf < 8; shelf++) {
            due.is("6: none on " + shelf, x.clear(shelf), 0);
        }
        due.is("6: shelf -2", x.clear(-2), BAD);
        due.is("6: shelf 8", x.clear(8), BAD);
    }

    /** "A SUM has no TERMS any more: how many it had." */
    private static void clearOfThreeHundred() {
        SpinBench x = new SpinBench(4);
        Build.threeHundred(x);
        x.take(3, -1);
        due.is("6: 300", x.clear(-1), 300);
        due.is("6: none left", x.terms(-1), 0);
        due.is("6: no TERM", x.number(-1, 0), BAD);
        due.is("6: the other one stays", x.clear(3), 300);
        due.is("6: none of all", x.count(4), 0);
    }

    /** "a whole number that is not 0" */
    private static void addOfNothing() {
        SpinBench x = new SpinBench(1);
        due.is("7: 0 to none", x.add(0, 3, 0), 0);
        x.add(0, 3, 5);
        due.is("7: 0 to one", x.add(0, 3, 0), 1);
        due.is("7: it stays", x.number(0, 0), 5);
        due.is("7: 0 to another PRODUCT", x.add(0, 2, 0), 1);
    }

    /** "a whole number .. -10^12 to 10^12"; "FULL: it would be no SUM" */
    private static void addUpToMost() {
        SpinBench x = new SpinBench(1);
        Build.most(x, 0, X);
        due.is("7: most", x.number(0, 0), MOST);
        due.is("7: 1 more", x.add(0, X, 1), FULL);
        due.is("7: still", x.number(0, 0), MOST);
        due.is("7: 0 more", x.add(0, X, 0), 1);
        due.is("7: 1 less", x.add(0, X, -1), 1);
        due.is("7: 2 more", x.add(0, X, 2), FULL);
        due.is("7: 1 more, that is most", x.add(0, X, 1), 1);
        due.is("7: most again", x.number(0, 0), MOST);
        due.is("7: far more", x.add(0, X, Integer.MAX_VALUE), FULL);
    }

    /** "a whole number .. -10^12 to 10^12"; "FULL: it would be no SUM" */
    private static void addDownToLeast() {
        SpinBench x = new SpinBench(1);
        Build.most(x, 1, X);
        x.join(0, 1, -1);
        due.is("7: least", x.number(0, 0), -MOST);
        due.is("7: 1 less", x.add(0, X, -1), FULL);
        due.is("7: still", x.number(0, 0), -MOST);
        due.is("7: 1 more", x.add(0, X, 1), 1);
        due.is("7: 2 less", x.add(0, X, -2), FULL);
        due.is("7: 1 less, that is least", x.add(0, X, -1), 1);
        due.is("7: least again", x.number(0, 0), -MOST);
        due.is("7: far less", x.add(0, X, Integer.MIN_VALUE), FULL);
    }

    /** "A whole number times a PRODUCT is added": ints as they are, sums of them beyond an int. */
    private static void addOfTheGreatestInts() {
        SpinBench x = new SpinBench(1);
        due.is("7: greatest", x.add(0, Z, Integer.MAX_VALUE), 1);
        due.is("7: twice", x.add(0, Z, Integer.MAX_VALUE), 1);
        due.is("7: beyond an int", x.number(0, 0), 2L * Integer.MAX_VALUE);
        due.is("7: least", x.add(1, Z, Integer.MIN_VALUE), 1);
        due.is("7: twice", x.add(1, Z, Integer.MIN_VALUE), 1);
        due.is("7: beyond an int", x.number(1, 0), 2L * Integer.MIN_VALUE);
    }

    /** "A SUM has 300 TERMS at most" */
    private static void addTheThreeHundredFirst() {
        SpinBench x = new SpinBench(4);
        Build.spread(x, 74);
        x.letter(X, 0, 1);
        due.is("7: 296", x.letter(X, 1, 1), 296);
        for (int i = 0; i < 4; i++) {
            due.is("7: up to 300", x.add(-1, 4 * i, 1), 297 + i);
        }
        due.is("7: 301 at a new PRODUCT", x.add(-1, 255 - Z, 1), FULL);
        due.is("7: 301 at an old PRODUCT, of a new row", x.add(-1, Z, 1), FULL);
        due.is("7: nothing at a new PRODUCT", x.add(-1, 255 - Z, 0), 300);
        due.is("7: more at an old row", x.add(-1, 12, 1), 300);
        due.is("7: that row goes", x.add(-1, 12, -2), 299);
        due.is("7: 300 again", x.add(-1, 255 - Z, 1), 300);
        due.is("7: 301 again", x.add(-1, 12, 1), FULL);
        due.is("12: 300", x.terms(-1), 300);
        due.is("13: the last", x.number(-1, 299), 1);
        due.is("13: none behind it", x.number(-1, 300), BAD);
    }

    /** "a whole number that is not 0": what comes to 0 is no TERM. */
    private static void termsThatAreZeroGo() {
        SpinBench x = new SpinBench(1);
        x.add(0, X, 4);
        x.add(0, Y, 6);
        due.is("7: away", x.add(0, X, -4), 1);
        due.is("7: the other one is TERM 0 now", x.power(0, 0, -1), Y);
        x.add(1, Y, 3);
        due.is("9: away", x.join(0, 1, -2), 0);
        x.add(2, X, 1);
        x.add(2, Y, 1);
        x.add(3, X, 5);
        x.add(3, Y, -5);
        due.is("16: away", x.product(4, 2, 3), 0);
        x.add(-1, X, 1);
        x.letter(Z, 0, 1);
        due.is("11: away", x.letter(Z, 0, -1), 1);
        x.take(5, -1);
        x.store(5, -1);
        due.is("30: a STORE", x.run(), 1);
        due.is("30: away", x.terms(5), 0);
    }

    /** "A SUM becomes that of another shelf: how many TERMS." */
    private static void takeOfNone() {
        SpinBench x = new SpinBench(1);
        x.add(0, X, 1);
        due.is("8: of none", x.take(0, -1), 0);
        due.is("8: none", x.terms(0), 0);
        due.is("8: none of none", x.take(-1, 7), 0);
        due.is("8: of itself", x.take(0, 0), 0);
    }

    /** "A SUM becomes that of another shelf: how many TERMS." */
    private static void takeOfThreeHundred() {
        SpinBench x = new SpinBench(4);
        Build.threeHundred(x);
        for (int shelf = 0; shelf < 8; shelf++) {
            due.is("8: 300 to " + shelf, x.take(shelf, shelf - 1), 300);
            due.is("8: the same", x.same(shelf, -1), 1);
        }
        due.is("8: itself", x.take(7, 7), 300);
        due.is("8: still the same", x.same(7, -1), 1);
        due.is("32: 2700 TERMS", x.count(4), 2700);
        x.clear(-1);
        due.is("8: each for itself", x.terms(7), 300);
    }

    /** "times a number (-3 to 3)": 0 */
    private static void joinTimesNothing() {
        SpinBench x = new SpinBench(4);
        Build.threeHundred(x);
        x.take(0, -1);
        due.is("9: to 300", x.join(0, -1, 0), 300);
        due.is("9: as it was", x.same(0, -1), 1);
        due.is("9: to none", x.join(1, -1, 0), 0);
        x.add(2, 0, 7);
        due.is("9: 300 others", x.join(2, -1, 0), 1);
        due.is("9: of none", x.join(0, 5, 3), 300);
    }

    /** "Another SUM, times a number (-3 to 3), is added": its own */
    private static void joinWithItself() {
        int[] times = {-2, -1, 0, 1, 2, 3, 4};
        for (int number = -3; number <= 3; number++) {
            SpinBench x = new SpinBench(1);
            x.add(0, X, 5);
            int due0 = times[number + 3];
            due.is("9: itself times " + number, x.join(0, 0, number), due0 == 0 ? 0 : 1);
            due.is("9: number", due0 == 0 ? 0 : x.number(0, 0), 5L * due0);
        }
        SpinBench x = new SpinBench(4);
        Build.threeHundred(x);
        due.is("9: 300 twice", x.join(-1, -1, 1), 300);
        due.is("9: 300 away", x.join(-1, -1, -1), 0);
    }

    /** "numbers beyond, when all is added up" */
    private static void joinNumbersWithinWhenAddedUp() {
        SpinBench x = new SpinBench(1);
        Build.most(x, 0, X);
        x.take(1, 0);
        due.is("9: 10^12 less 2 10^12", x.join(1, 0, -2), 1);
        due.is("9: -10^12", x.number(1, 0), -MOST);
        due.is("9: -10^12 and 2 10^12", x.join(1, 0, 2), 1);
        due.is("9: 10^12", x.number(1, 0), MOST);
        due.is("9: 10^12 less 3 10^12", x.join(1, 0, -3), FULL);
        due.is("9: none less 10^12", x.join(2, 0, -1), 1);
        x.add(0, X, -1);
        due.is("9: -10^12 and 2 (10^12 - 1)", x.join(2, 0, 2), 1);
        due.is("9: 10^12 - 2", x.number(2, 0), MOST - 2);
        due.is("9: 10^12", x.add(2, X, 2), 1);
        due.is("9: 10^12 less 3 (10^12 - 1)", x.join(2, 0, -3), FULL);
        due.is("9: as it was", x.number(2, 0), MOST);
        x.clear(0);
        x.add(0, X, 1);
        due.is("9: 10^12 and 1", x.join(2, 0, 1), FULL);
        due.is("9: 10^12 less 1", x.join(2, 0, -1), 1);
    }

    /** "A SUM that has more TERMS .. when all is added up": 450 rows come, 300 TERMS are left. */
    private static void joinTermsWithinWhenAddedUp() {
        SpinBench x = new SpinBench(4);
        for (int k = 0; k < 3; k++) {
            Build.spread(x, 75);
            due.is("11: 150", x.letter(X, k, 1), 150);
            x.take(k, -1);
        }
        x.take(3, 0);
        due.is("9: 150 and 150", x.join(3, 1, 1), 300);
        due.is("9: 150 and 150", x.join(0, 2, 1), 300);
        x.take(4, 3);
        due.is("9: 450 unlike ones", x.join(4, 0, 1), FULL);
        due.is("9: as it was", x.same(4, 3), 1);
        due.is("9: 150 of them add up to 0", x.join(4, 0, -1), 300);
        due.is("9: back again", x.join(4, 0, 1), 300);
        due.is("9: as it was", x.same(4, 3), 1);
    }

    /** "FULL": 300 TERMS and one more */
    private static void joinTheThreeHundredFirst() {
        SpinBench x = new SpinBench(4);
        Build.threeHundred(x);
        x.add(0, 4, 1);
        due.is("9: 301", x.join(-1, 0, 1), FULL);
        due.is("9: 301 the other way", x.join(0, -1, 1), FULL);
        due.is("9: as it was", x.terms(0), 1);
        x.clear(0);
        due.is("9: 300 to none", x.join(0, -1, -3), 300);
        due.is("9: their numbers", x.number(0, 0), -3 * x.number(-1, 0));
    }

    /** "A TURN of WORK": of none */
    private static void quarterOfNone() {
        SpinBench x = new SpinBench(4);
        for (int q = 0; q < 4; q++) {
            due.is("10: none", x.quarter(255, q), 0);
            due.is("10: about PRODUCT 0", x.quarter(0, q), 0);
        }
    }

    /** "cosine and sine are 1, 0; 0, 1; -1, 0; 0, -1": the greatest numbers stay as great. */
    private static void quarterOfMost() {
        int[] axes = {X, Y, X, Y};
        int[] signs = {1, 1, -1, -1};
        for (int q = 0; q < 4; q++) {
            SpinBench x = new SpinBench(1);
            Build.most(x, -1, X);
            due.is("10: " + q, x.quarter(Z, q), 1);
            due.is("10: number by " + q, x.number(-1, 0), signs[q] * MOST);
            due.is("10: axis by " + q, x.power(-1, 0, -1), axes[q]);
        }
    }

    /** "FULL": a quarter turn makes no TERMS more. */
    private static void quarterOfThreeHundred() {
        SpinBench x = new SpinBench(4);
        Build.threeHundred(x);
        x.take(0, -1);
        for (int i = 0; i < 4; i++) {
            due.is("10: 300", x.quarter(X, 1), 300);
        }
        due.is("10: once around", x.same(0, -1), 1);
        due.is("10: half around", x.quarter(X, 2), 300);
        due.is("10: minus", x.join(0, -1, 1), 0);
    }

    /** "Two PRODUCTS FIT, if at an even number of SPINS (or none) both have an axis, and unlike ones." */
    private static void fitsByAnEvenNumber() {
        int[] about = {X + 4 * X + 16 * X + 64 * X, X + 4 * X + 16 * X + 64 * X, X, X, 0, 255};
        int[] turned = {Y + 4 * Z + 16 * Y + 64 * Z, Y + 4 * Z, X, 4 * Y, 255, 0};
        for (int i = 0; i < about.length; i++) {
            SpinBench x = new SpinBench(4);
            x.add(-1, turned[i], 3);
            x.take(0, -1);
            due.is("10: stays", x.quarter(about[i], 1), 1);
            due.is("10: as it was", x.same(0, -1), 1);
            due.is("11: stays", x.letter(about[i], 0, 1), 1);
            due.is("11: as it was", x.same(0, -1), 1);
        }
    }

    /** "then 1 less: by 0 the sign is +, by 2 (modulo 4) it is -": 1, -1, 3, -3 ahead of it are 0, -2, 2, -4. */
    private static void signsModuloFour() {
        int[][] about = {{X, 0, 0}, {Y, 0, 0}, {X, Y, Z}, {Y, Z, X}, {X, X, Y}, {X, Y, Y}};
        int[][] turned = {{Y, 0, 0}, {X, 0, 0}, {Y, Z, X}, {X, Y, Z}, {Y, Y, X}, {Y, X, X}};
        int[][] third = {{Z, 0, 0}, {Z, 0, 0}, {Z, X, Y}, {Z, X, Y}, {Z, Z, Z}, {Z, Z, Z}};
        int[] signs = {1, -1, -1, 1, 1, -1};
        for (int i = 0; i < signs.length; i++) {
            SpinBench x = new SpinBench(3);
            x.add(-1, number(turned[i]), 5);
            due.is("10: one", x.quarter(number(about[i]), 1), 1);
            due.is("10: WITH, " + i, x.power(-1, 0, -1), number(third[i]));
            due.is("10: sign, " + i, x.number(-1, 0), 5 * signs[i]);
        }
    }

    private static int number(int[] axes) {
        return axes[0] + 4 * axes[1] + 16 * axes[2];
    }

    /** "A TURN of WORK": of none */
    private static void letterOfNone() {
        SpinBench x = new SpinBench(4);
        for (int k = 0; k < 4; k++) {
            due.is("11: none", x.letter(255, k, 1), 0);
            due.is("11: about PRODUCT 0", x.letter(0, k, -1), 0);
        }
    }

    /** "A SUM has 300 TERMS at most" */
    private static void letterUpToThreeHundred() {
        SpinBench x = new SpinBench(4);
        Build.spread(x, 75);
        x.letter(X, 0, 1);
        x.take(0, -1);
        due.is("11: 300", x.letter(X, 1, 1), 300);
        x.take(-1, 0);
        x.add(-1, 0, 1);
        due.is("11: 301, one of them stays", x.letter(X, 1, 1), FULL);
        due.is("11: 151 still", x.terms(-1), 151);
        x.add(-1, 0, -1);
        x.add(-1, Z, 1);
        due.is("11: 302", x.letter(X, 1, 1), FULL);
        due.is("11: 302 backwards", x.letter(X, 1, -1), FULL);
        due.is("11: 151 still", x.terms(-1), 151);
        x.add(-1, Z, -1);
        due.is("11: as it was", x.same(-1, 0), 1);
    }

    /** "more TERMS .. when all is added up": 450 rows come, 150 TERMS are left. */
    private static void letterBackFromThreeHundred() {
        SpinBench x = new SpinBench(4);
        Build.spread(x, 75);
        x.letter(X, 0, 1);
        x.take(0, -1);
        due.is("11: 300", x.letter(X, 1, 1), 300);
        due.is("11: back", x.letter(X, 1, -1), 150);
        due.is("11: as it was", x.same(0, -1), 1);
        due.is("11: 300 backwards", x.letter(X, 1, -1), 300);
        due.is("11: and forwards", x.letter(X, 1, 1), 150);
        due.is("11: as it was", x.same(0, -1), 1);
    }

    /** "more TERMS .. is no SUM": 300 TERMS with S0 become 900 rows, the most that can come. */
    private static void letterOfNineHundred() {
        SpinBench x = new SpinBench(4);
        Build.spread(x, 75);
        x.take(0, -1);
        x.letter(X, 0, 1);
        x.take(1, -1);
        x.take(-1, 0);
        x.letter(X, 0, -1);
        due.is("9: 2 S0 is left", x.join(1, -1, -1), 75);
        x.take(-1, 1);
        x.letter(X, 1, 1);
        due.is("11: 300 with S0", x.letter(X, 2, 1), 300);
        x.take(2, -1);
        due.is("11: 900 forwards", x.letter(X, 0, 1), FULL);
        due.is("11: 900 backwards", x.letter(X, 0, -1), FULL);
        due.is("11: as it was", x.same(2, -1), 1);
        due.is("11: others still go", x.letter(X, 2, -1), 150);
        due.is("11: and back", x.letter(X, 2, 1), 300);
        due.is("11: as it was", x.same(2, -1), 1);
    }

    /** "of each Ck 0 to 12, of each Sk 0 or 1" */
    private static void letterPowersOfEachLetter() {
        for (int k = 0; k < 4; k++) {
            for (int way = -1; way <= 1; way += 2) {
                SpinBench x = new SpinBench(1);
                x.add(-1, X, 1);
                for (int i = 1; i <= 12; i++) {
                    due.is("11: " + i, x.letter(Z, k, way), i + 1);
                }
                due.is("11: C" + k + "^12", Build.greatestPower(x, -1, 2 * k), 12);
                due.is("11: S" + k, Build.greatestPower(x, -1, 2 * k + 1), 1);
                x.take(0, -1);
                due.is("11: C" + k + "^13", x.letter(Z, k, way), FULL);
                due.is("11: as it was", x.same(0, -1), 1);
                due.is("11: another LETTER", x.letter(Z, (k + 1) % 4, 1), 26);
                due.is("11: C" + k + "^12 still", Build.greatestPower(x, -1, 2 * k), 12);
            }
        }
    }

    /** "powers .. beyond, when all is added up": C0^14 comes, and adds up to 0. */
    private static void letterPowersWithinWhenAddedUp() {
        SpinBench x = new SpinBench(1);
        x.add(-1, Y, -3);
        for (int i = 0; i < 12; i++) {
            x.letter(X, 0, -1);
        }
        for (int i = 11; i >= 0; i--) {
            due.is("11: back to " + i, x.letter(X, 0, 1), i + 1);
            due.is("11: greatest", Build.greatestPower(x, -1, 0), i);
        }
        due.is("11: as at first", x.number(-1, 0), -3);
        due.is("11: y", x.power(-1, 0, -1), Y);
    }

    /** "numbers beyond": 5 10^11 twice is 10^12, one more twice is beyond. */
    private static void letterNumbersOfMost() {
        for (int sign = -1; sign <= 1; sign += 2) {
            SpinBench x = new SpinBench(1);
            x.add(-1, X, 500000000 * sign);
            for (int i = 0; i < 3; i++) {
                x.take(7, -1);
                x.join(-1, 7, 3);
                x.join(-1, 7, 3);
                x.join(-1, 7, 3);
            }
            x.take(0, -1);
            x.letter(Z, 0, 1);
            due.is("11: 10^12 C0 S0, 10^12 C0^2", x.letter(Z, 0, 1), 3);
            due.is("11: -5 10^11", x.number(-1, 0), -sign * MOST / 2);
            due.is("11: 10^12 at x", x.number(-1, 1), sign * MOST);
            due.is("11: 10^12 at y", x.number(-1, 2), sign * MOST);
            x.take(-1, 0);
            x.add(-1, X, sign);
            x.letter(Z, 0, 1);
            x.take(0, -1);
            due.is("11: 10^12 and 2", x.letter(Z, 0, 1), FULL);
            due.is("11: as it was", x.same(0, -1), 1);
            due.is("11: backwards it adds up", x.letter(Z, 0, -1), 1);
            due.is("11: 5 10^11 and 1", x.number(-1, 0), sign * (MOST / 2 + 1));
        }
    }

    /** "Of TERM t .. BAD" */
    private static void readNoSuchTerm() {
        SpinBench x = new SpinBench(1);
        for (int size = 0; size < 4; size++) {
            for (int t : new int[] {Integer.MIN_VALUE, -2, -1, size, size + 1, 299, 300, Integer.MAX_VALUE}) {
                due.is("13: TERM " + t + " of " + size, x.number(0, t), BAD);
                due.is("14: TERM " + t + " of " + size, x.power(0, t, -1), BAD);
                due.is("14: TERM " + t + " of " + size, x.power(0, t, 0), BAD);
            }
            x.add(0, size, 10 + size);
            due.is("13: TERM " + size, x.number(0, size), 10 + size);
            due.is("14: TERM " + size, x.power(0, size, -1), size);
        }
        x.clear(0);
        due.is("13: TERM 0 of what was cleared", x.number(0, 0), BAD);
        due.is("14: TERM 0 of what was cleared", x.power(0, 0, -1), BAD);
    }

    /** "-1 its PRODUCT; 0 .. 7 the power of C0, S0, C1, S1, .. . BAD." */
    private static void readPowersOfEachKind() {
        for (int v = 0; v < 8; v++) {
            SpinBench x = new SpinBench(1);
            if (v % 2 == 0) {
                Build.cosine(x, 0, v / 2);
            } else {
                Build.sine(x, 0, v / 2);
            }
            due.is("16: one", x.terms(0), 1);
            for (int w = 0; w < 8; w++) {
                due.is("14: power " + w + " of " + v, x.power(0, 0, w), v == w ? 1 : 0);
            }
            due.is("14: PRODUCT", x.power(0, 0, -1), 0);
            for (int w : new int[] {Integer.MIN_VALUE, -2, 8, 9, Integer.MAX_VALUE}) {
                due.is("14: power " + w, x.power(0, 0, w), BAD);
            }
        }
    }

    /** "BAD as a long": a number may look like it. */
    private static void aNumberThatLooksLikeBad() {
        SpinBench x = new SpinBench(1);
        x.add(0, 0, BAD);
        due.is("13: there", x.number(0, 0), BAD);
        due.is("13: not there", x.number(0, 1), -1000001L);
        due.is("12: one TERM", x.terms(0), 1);
        due.is("17: no shelf", x.digest(8), -1000001L);
    }

    /** "Whether two SUMS are the same" */
    private static void sameOfNone() {
        SpinBench x = new SpinBench(1);
        due.is("15: two of none", x.same(-1, 7), 1);
        due.is("15: itself", x.same(3, 3), 1);
        x.add(0, 0, 1);
        due.is("15: one of none", x.same(0, 1), 0);
        due.is("15: the other of none", x.same(1, 0), 0);
        x.add(0, 0, -1);
        due.is("15: none again", x.same(0, 1), 1);
    }

    /** "Whether two SUMS are the same": 300 TERMS but for one number, one PRODUCT, one power, one TERM. */
    private static void sameOfOneOff() {
        SpinBench x = new SpinBench(4);
        Build.spread(x, 74);
        x.letter(X, 0, 1);
        x.letter(X, 1, 1);
        x.add(-1, 252, 5);
        x.take(0, -1);
        due.is("15: 297", x.same(-1, 0), 1);
        x.add(0, 252, 1);
        due.is("15: a number", x.same(-1, 0), 0);
        x.add(0, 252, -6);
        due.is("15: a TERM less", x.same(-1, 0), 0);
        x.add(0, 248, 5);
        due.is("15: a PRODUCT", x.same(-1, 0), 0);
        x.add(0, 248, -5);
        x.add(0, 252, 5);
        due.is("15: the same", x.same(-1, 0), 1);
        x.add(0, 0, 1);
        x.add(-1, 4, 1);
        due.is("15: the first PRODUCT", x.same(-1, 0), 0);
        x.add(-1, 4, -1);
        x.add(-1, 0, 2);
        due.is("15: the first number", x.same(-1, 0), 0);
        x.add(-1, 0, -1);
        due.is("15: the same again", x.same(-1, 0), 1);
        x.letter(X, 1, -1);
        x.letter(X, 2, 1);
        due.is("15: powers", x.same(-1, 0), 0);
    }

    /** "the SUM, at PRODUCT 0, of what stands at PRODUCT p": where nothing does */
    private static void productOfNone() {
        SpinBench x = new SpinBench(1);
        x.add(0, X, 1);
        x.add(3, Z, 4);
        due.is("16: none in a", x.product(3, 1, 0), 0);
        due.is("16: it went", x.terms(3), 0);
        due.is("16: none in b", x.product(3, 0, 1), 0);
        due.is("16: none in both", x.product(3, 1, 2), 0);
        x.add(1, Y, 1);
        due.is("16: no PRODUCT in common", x.product(3, 0, 1), 0);
    }

    /** "A shelf becomes the SUM .. of another one .. of a third one": all of them the same */
    private static void productOntoItsOwn() {
        SpinBench x = new SpinBench(1);
        x.add(0, X, 2);
        x.add(0, 0, 3);
        x.add(1, X, 5);
        due.is("16: onto a", x.product(0, 0, 1), 1);
        due.is("16: 10", x.number(0, 0), 10);
        x.add(1, 0, 1);
        due.is("16: onto b", x.product(1, 0, 1), 1);
        due.is("16: 10 again", x.number(1, 0), 10);
        due.is("16: onto both", x.product(1, 1, 1), 1);
        due.is("16: 100", x.number(1, 0), 100);
        due.is("16: at PRODUCT 0", x.power(1, 0, -1), 0);
    }

    /** "one has a number .. beyond" */
    private static void productNumbersOfMost() {
        SpinBench x = new SpinBench(1);
        x.add(0, X, 1000000);
        x.add(1, X, -1000000);
        due.is("16: 10^12", x.product(2, 0, 0), 1);
        due.is("16: 10^12", x.number(2, 0), MOST);
        due.is("16: -10^12", x.product(2, 0, 1), 1);
        due.is("16: -10^12", x.number(2, 0), -MOST);
        x.add(3, X, 1000001);
        due.is("16: 10^12 and 10^6", x.product(2, 0, 3), FULL);
        due.is("16: -10^12 less 10^6", x.product(2, 1, 3), FULL);
        due.is("16: as it was", x.number(2, 0), -MOST);
        Build.most(x, 4, X);
        x.add(5, X, 1);
        x.add(6, X, 2);
        due.is("16: most times 1", x.product(2, 4, 5), 1);
        due.is("16: most times 2", x.product(2, 4, 6), FULL);
        due.is("16: most times most", x.product(2, 4, 4), FULL);
        x.add(5, X, -2);
        due.is("16: most times -1", x.product(2, 4, 5), 1);
        due.is("16: least", x.number(2, 0), -MOST);
        addedUp(x);
    }

    /** "or it would be no SUM": each within, their sum beyond; each beyond, their sum within. */
    private static void addedUp(SpinBench x) {
        for (int shelf = 0; shelf < 3; shelf++) {
            x.clear(shelf);
        }
        x.add(0, X, 1000000);
        x.add(0, Y, 1);
        due.is("16: 10^12 and 1", x.product(2, 0, 0), FULL);
        x.add(1, X, 1000000);
        x.add(1, Y, -1);
        due.is("16: 10^12 less 1", x.product(2, 0, 1), 1);
        due.is("16: its number", x.number(2, 0), MOST - 1);
        x.add(0, Y, 1000000);
        x.add(1, Y, -1000000);
        due.is("16: one of two beyond, that adds up within", x.product(2, 0, 1), FULL);
        due.is("16: as it was", x.number(2, 0), MOST - 1);
    }

    /** "of each Ck 0 to 12, of each Sk 0 or 1": C0^12 S0 C1^12 S1 C2^12 S2 C3^12 S3, and one more of each. */
    private static void productPowersOfAllLetters() {
        SpinBench x = new SpinBench(1);
        x.add(0, 0, 1);
        for (int k = 0; k < 4; k++) {
            Build.cosine(x, 1, k);
            for (int i = 0; i < 12; i++) {
                due.is("16: C" + k, x.product(0, 0, 1), 1);
            }
            Build.sine(x, 1, k);
            due.is("16: S" + k, x.product(0, 0, 1), 1);
        }
        for (int v = 0; v < 8; v++) {
            due.is("14: power " + v, x.power(0, 0, v), v % 2 == 0 ? 12 : 1);
        }
        for (int k = 0; k < 4; k++) {
            Build.cosine(x, 1, k);
            due.is("16: C" + k + "^13", x.product(2, 0, 1), FULL);
            due.is("16: C" + k + "^13 the other way", x.product(2, 1, 0), FULL);
            Build.sine(x, 1, k);
            due.is("16: C" + k + "^12 S" + k + "^2", x.product(2, 0, 1), FULL);
        }
        due.is("16: its square", x.product(2, 0, 0), FULL);
        x.add(3, 0, -1);
        due.is("16: times -1", x.product(2, 0, 3), 1);
        due.is("16: number", x.number(2, 0), -1);
        due.is("16: the same but for that", x.join(2, 0, 1), 0);
    }

    /** "one has a .. power beyond": though all of them add up to 0 */
    private static void productPowersBeyondThatAddUpToZero() {
        for (int power = 6; power <= 7; power++) {
            SpinBench x = new SpinBench(2);
            x.add(-1, X, 1);
            x.add(-1, X + 4 * X, 1);
            for (int i = 0; i < power; i++) {
                x.letter(Z, 3, 1);
            }
            x.take(2, -1);
            // What comes of xx is minus now, so that it takes away what comes of x.
            x.quarter(4 * Z, 2);
            due.is("16: C3^" + 2 * power + " less C3^" + 2 * power, x.product(3, 2, -1), power == 6 ? 0 : FULL);
        }
    }

    /** "with each Sk Sk as 1 less Ck Ck, one has a .. power beyond": C0^6 S0 times itself has C0^14, that adds up to 0. */
    private static void productSquaresBeyondThatAddUpToZero() {
        for (int often = 6; often <= 7; often++) {
            SpinBench x = new SpinBench(2);
            // Forwards less backwards the cosines go: sines of so many times the angle are left, all of them with S0.
            for (int way = -1; way <= 1; way += 2) {
                x.clear(-1);
                x.add(-1, X, 1);
                x.add(-1, X + 4 * X, 1);
                for (int i = 0; i < often; i++) {
                    x.letter(Z, 0, way);
                }
                x.join(0, -1, way);
            }
            due.is("9: the greatest power of C0", Build.greatestPower(x, 0, 0), often - 1);
            x.take(-1, 0);
            x.quarter(4 * Z, 2);
            due.is("16: C0^" + (2 * often - 2) + " S0^2 adds up to 0", x.product(1, 0, -1), often == 6 ? 0 : FULL);
        }
    }

    /** "with each Sk Sk as 1 less Ck Ck": S0 S1 S2 S3 times itself has sixteen rows. */
    private static void productSquaresOfAllSines() {
        SpinBench x = new SpinBench(1);
        x.add(0, 0, 1);
        for (int k = 0; k < 4; k++) {
            Build.sine(x, 1, k);
            x.product(0, 0, 1);
        }
        due.is("16: S0 S1 S2 S3", x.terms(0), 1);
        due.is("16: its square", x.product(2, 0, 0), 16);
        for (int t = 0; t < 16; t++) {
            int minus = 0;
            for (int k = 0; k < 4; k++) {
                int taken = t >> 3 - k & 1;
                minus += taken;
                due.is("14: C" + k + " of TERM " + t, x.power(2, t, 2 * k), 2 * taken);
                due.is("14: S" + k + " of TERM " + t, x.power(2, t, 2 * k + 1), 0);
            }
            due.is("13: TERM " + t, x.number(2, t), minus % 2 == 0 ? 1 : -1);
        }
    }

    /** A shelf gets (1 + Ck) to a power, times what it has. SHELF 7 is used on the way. */
    private static void timesBinomial(SpinBench x, int shelf, int k, int power) {
        Build.cosine(x, 7, k);
        x.add(7, 0, 1);
        for (int i = 0; i < power; i++) {
            x.product(shelf, shelf, 7);
        }
    }

    /** "there are more than 300 unlike rows of powers" */
    private static void productRowsUpToThreeHundred() {
        SpinBench x = new SpinBench(1);
        x.add(0, 0, 1);
        timesBinomial(x, 0, 0, 9);
        timesBinomial(x, 0, 1, 9);
        x.add(1, 0, 1);
        timesBinomial(x, 1, 2, 2);
        due.is("16: 100", x.terms(0), 100);
        due.is("16: 300", x.product(2, 0, 1), 300);
        due.is("16: 300 the other way", x.product(3, 1, 0), 300);
        due.is("16: the same", x.same(2, 3), 1);
        due.is("16: 300 times 1", x.product(2, 2, 4), 0);
        timesBinomial(x, 1, 2, 1);
        due.is("16: 400", x.product(3, 0, 1), FULL);
        due.is("16: 300 still", x.terms(3), 300);
        x.add(4, 0, 1);
        due.is("16: 300 times 1", x.product(3, 3, 4), 300);
        Build.cosine(x, 4, 3);
        due.is("16: 300 times C3", x.product(3, 3, 4), 300);
        x.add(4, 0, 1);
        due.is("16: 300 times 1 and C3", x.product(3, 3, 4), FULL);
    }

    /** "(also of such as add up to 0)" */
    private static void productRowsThatAddUpToZero() {
        SpinBench x = new SpinBench(1);
        x.add(0, 0, 1);
        timesBinomial(x, 0, 0, 12);
        timesBinomial(x, 0, 1, 11);
        due.is("16: 156", x.terms(0), 156);
        // (1 + C2) (1 - C2) has two TERMS, and the row C2 that adds up to 0.
        Build.cosine(x, 1, 2);
        x.add(1, 0, 1);
        x.take(2, 1);
        x.add(2, 0, -2);
        due.is("16: C2^2 less 1", x.product(3, 1, 2), 2);
        due.is("16: 312 TERMS", x.product(4, 0, 3), FULL);
        x.clear(0);
        x.add(0, 0, 1);
        timesBinomial(x, 0, 0, 10);
        timesBinomial(x, 0, 1, 9);
        due.is("16: 110", x.terms(0), 110);
        due.is("16: 220 of 220 rows", x.product(4, 0, 3), 220);
        due.is("16: 220", x.product(5, 0, 1), 220);
        due.is("16: 220 of 330 rows", x.product(6, 5, 2), FULL);
        due.is("16: none came", x.terms(6), 0);
        due.is("16: nor do they the other way", x.product(6, 2, 5), FULL);
    }

    /** "h = 17" */
    private static void digestOfNone() {
        SpinBench x = new SpinBench(1);
        due.is("17: none", x.digest(-1), 17);
        x.add(-1, 0, 1);
        x.clear(-1);
        due.is("17: none any more", x.digest(-1), 17);
        x.add(-1, 0, -1);
        long h = 17;
        for (int i = 0; i < 9; i++) {
            h = 31 * h;
        }
        due.is("17: one, minus", x.digest(-1), 31 * h - 1);
    }

    /** "then h = 31 h + v for each v": beyond what a long has */
    private static void digestWrapsAround() {
        SpinBench x = new SpinBench(1);
        Build.most(x, -1, Z);
        x.letter(X, 0, 1);
        x.letter(Y, 1, -1);
        x.letter(Z, 2, 1);
        x.letter(X, 3, 1);
        x.letter(Y, 3, 1);
        int terms = x.terms(-1);
        due.holds("17: TERMS enough to wrap around, not " + terms, terms >= 10 && terms <= 45);
        long h = 17;
        for (int t = 0; t < terms; t++) {
            for (int v = -1; v < 8; v++) {
                h = 31 * h + x.power(-1, t, v);
            }
            h = 31 * h + x.number(-1, t);
        }
        due.is("17: wrapped around", x.digest(-1), h);
        x.join(0, -1, -1);
        due.holds("17: of the other signs", x.digest(0) != h);
    }
}
