/** Promises 1 to 5 and 33: each sentence that names a boundary case, in a test of its own. */
public final class TableEdgesTest {
    private static final int BAD = SpinBench.BAD;
    private static final int NULL = -1000011, PLACE = -1000012, SIZE = -1000014, STORE = -1000015;
    private static final int MIN = Integer.MIN_VALUE, MAX = Integer.MAX_VALUE;
    private static final Due due = new Due("TableEdgesTest");

    public static void main(String[] args) {
        spinsBelowOne();
        spinsAboveFour();
        everythingMissingAtFirst();
        tableOfNone();
        tableOfSixty();
        tableAboveSixty();
        tableOfFewerThanNone();
        tableInPlaceOfAnother();
        itemsAreZeroAtFirst();
        bytesWrapAround();
        shortsWrapAround();
        intsDoNot();
        noPlaceBelowOrBeyond();
        noPlaceOfAnEarlierTable();
        copyToBothEnds();
        copyOfNone();
        copyBeyondAnEnd();
        copyOfNumbersThatWrapAround();
        copyOntoItself();
        copyOfTwoLanes();
        copyOfMissingTables();
        dropOfAnEmptyTable();
        dropOfAMissingTable();
        dropThenNew();
        statusAtFirst();
        statusAfterEachFinding();
        statusIsClearedByEachCall();
        statusStaysAfterRefusals();
        due.end();
    }

    /** "n SPINS (below 1 ..: 1 ..)" */
    private static void spinsBelowOne() {
        for (int n : new int[] {MIN, -4, -1, 0}) {
            SpinBench x = new SpinBench(n);
            due.is("1: SPINS of " + n, x.count(0), 1);
            due.is("1: PRODUCT 3 of " + n, x.add(0, 3, 1), 1);
            due.is("1: PRODUCT 4 of " + n, x.add(0, 4, 1), BAD);
            due.is("1: set 1 of " + n, x.pulse(1, 0, 0), 0);
            due.is("1: set 2 of " + n, x.pulse(2, 0, 0), BAD);
        }
    }

    /** "n SPINS (.. above 4: .. 4)" */
    private static void spinsAboveFour() {
        for (int n : new int[] {5, 6, 1000, MAX}) {
            SpinBench x = new SpinBench(n);
            due.is("1: SPINS of " + n, x.count(0), 4);
            due.is("1: PRODUCT 255 of " + n, x.add(0, 255, 1), 1);
            due.is("1: PRODUCT 256 of " + n, x.add(0, 256, 1), BAD);
            due.is("1: set 15 of " + n, x.pulse(15, 0, 0), 0);
            due.is("1: set 16 of " + n, x.pulse(16, 0, 0), BAD);
        }
    }

    /** "no OPS, no TABLES; WORK, SHELVES without TERMS" */
    private static void everythingMissingAtFirst() {
        SpinBench x = new SpinBench(4);
        for (int what = 1; what < 5; what++) {
            due.is("1: count(" + what + ")", x.count(what), 0);
        }
        for (int shelf = -1; shelf < 8; shelf++) {
            due.is("1: terms of " + shelf, x.terms(shelf), 0);
            due.is("1: digest of " + shelf, x.digest(shelf), 17);
            due.is("1: no TERM 0 of " + shelf, x.number(shelf, 0), BAD);
        }
        for (int table = 0; table < 8; table++) {
            due.is("1: no ITEM of " + table, x.set(table, 0, 0), NULL);
        }
        due.is("1: no last OP", x.back(), SpinBench.STATE);
        due.is("1: a RUN of none", x.run(), 0);
    }

    /** "0 to 60 ITEMS" */
    private static void tableOfNone() {
        SpinBench x = new SpinBench(1);
        for (int lane = 0; lane < 3; lane++) {
            due.is("2: none", x.table(lane, lane, 0), 0);
            due.is("2: it is there, without a place", x.set(lane, 0, 1), PLACE);
            due.is("2: it counts", x.count(2), lane + 1);
            due.is("2: none of it can be copied", x.copy(lane, 0, lane, 0, 0), 0);
            due.is("2: one of it can not", x.copy(lane, 0, lane, 0, 1), PLACE);
        }
    }

    /** "0 to 60 ITEMS" */
    private static void tableOfSixty() {
        SpinBench x = new SpinBench(1);
        for (int table = 0; table < 8; table++) {
            due.is("2: 60", x.table(table, table % 3, 60), 60);
            due.is("2: the last", x.set(table, 59, 3), 3);
            due.is("2: beyond", x.set(table, 60, 3), PLACE);
        }
        due.is("2: all of them", x.count(2), 8);
    }

    /** "BAD: .. n above 60" */
    private static void tableAboveSixty() {
        SpinBench x = new SpinBench(1);
        for (int n : new int[] {61, 62, 1000, MAX}) {
            due.is("2: missing, " + n, x.table(0, 0, n), BAD);
            due.is("2: still missing", x.set(0, 0, 0), NULL);
        }
        x.table(0, 1, 2);
        x.set(0, 1, 3);
        due.is("2: there, 61", x.table(0, 2, 61), BAD);
        due.is("2: its size stays", x.set(0, 2, 0), PLACE);
        due.is("2: its LANE stays", x.set(0, 0, 65536), 0);
        due.is("2: its ITEM stays", Build.item(x, 0, 1, 1), 3);
    }

    /** "4 SIZE (fewer than none)" */
    private static void tableOfFewerThanNone() {
        SpinBench x = new SpinBench(1);
        for (int n : new int[] {-1, -60, -61, MIN}) {
            due.is("2: missing, " + n, x.table(0, 0, n), SIZE);
            due.is("2: status", x.status(), 4);
            due.is("2: still missing", x.count(2), 0);
        }
        x.table(0, 1, 2);
        x.set(0, 1, 3);
        due.is("2: there, -1", x.table(0, 2, -1), SIZE);
        due.is("2: its size stays", x.copy(0, 0, 0, 0, 2), 2);
        due.is("2: its LANE stays", x.set(0, 0, 65536), 0);
        due.is("2: its ITEM stays", Build.item(x, 0, 1, 1), 3);
    }

    /** "in place of what is there" */
    private static void tableInPlaceOfAnother() {
        SpinBench x = new SpinBench(1);
        x.table(0, 2, 60);
        x.set(0, 0, 1);
        x.set(0, 59, 1);
        due.is("2: a smaller one", x.table(0, 0, 5), 5);
        due.is("2: places end there", x.set(0, 5, 1), PLACE);
        due.is("2: another LANE", x.set(0, 1, 256), 0);
        due.is("2: ITEM 0 anew", Build.item(x, 0, 0, 0), 0);
        due.is("2: a greater one", x.table(0, 2, 60), 60);
        due.is("2: the last ITEM anew", Build.item(x, 0, 2, 59), 0);
        due.is("2: still one TABLE, and that of the reader", x.count(2), 2);
        due.is("2: alike, but anew", x.set(0, 59, 2), 2);
        x.table(0, 2, 60);
        due.is("2: 0 again", Build.item(x, 0, 2, 59), 0);
    }

    /** "ITEMS, 0 at first" */
    private static void itemsAreZeroAtFirst() {
        SpinBench x = new SpinBench(1);
        for (int lane = 0; lane < 3; lane++) {
            x.table(lane, lane, 60);
            for (int i : new int[] {0, 1, 30, 58, 59}) {
                due.is("2: ITEM " + i + " of LANE " + lane, Build.item(x, lane, lane, i), 0);
            }
        }
    }

    private static void becomes(int lane, int[] values, int[] items) {
        SpinBench x = new SpinBench(1);
        x.table(0, lane, 1);
        for (int i = 0; i < values.length; i++) {
            due.is("3: LANE " + lane + ", " + values[i], x.set(0, 0, values[i]), items[i]);
            due.is("3: turns by " + items[i], Build.firstItem(x, 0), Math.floorMod(items[i], 4));
        }
    }

    /** "v, its lowest bits, as many as the LANE has" */
    private static void bytesWrapAround() {
        int[] values = {0, 127, 128, 129, 255, 256, 257, -1, -128, -129, -256, -257, 32767, 32768, 65535, MAX, MIN};
        int[] items = {0, 127, -128, -127, -1, 0, 1, -1, -128, 127, 0, -1, -1, 0, -1, -1, 0};
        becomes(0, values, items);
    }

    /** "v, its lowest bits, as many as the LANE has" */
    private static void shortsWrapAround() {
        int[] values = {0, 128, 255, 32767, 32768, 32769, 65535, 65536, 65537, -1, -32768, -32769, -65536, MAX, MIN};
        int[] items = {0, 128, 255, 32767, -32768, -32767, -1, 0, 1, -1, -32768, 32767, 0, -1, 0};
        becomes(1, values, items);
    }

    /** "v, its lowest bits, as many as the LANE has" */
    private static void intsDoNot() {
        int[] values = {0, 255, 256, 65535, 65536, -32769, -65537, MAX, MAX - 1, MIN, MIN + 1};
        becomes(2, values, values);
    }

    /** "2 PLACE (no such place of a TABLE)" */
    private static void noPlaceBelowOrBeyond() {
        for (int size : new int[] {0, 1, 2, 59, 60}) {
            SpinBench x = new SpinBench(1);
            x.table(3, 2, size);
            for (int i : new int[] {MIN, -60, -1, size, size + 1, 61, MAX}) {
                due.is("3: place " + i + " of " + size, x.set(3, i, 1), PLACE);
                due.is("3: status", x.status(), 2);
            }
            for (int i : new int[] {0, size - 1}) {
                due.is("3: place " + i + " of " + size, x.set(3, i, 9), size == 0 ? PLACE : 9);
            }
        }
    }

    /** "2 PLACE (no such place of a TABLE)": nor one that the TABLE had before it was made anew. */
    private static void noPlaceOfAnEarlierTable() {
        SpinBench x = new SpinBench(1);
        x.table(0, 2, 60);
        x.drop(0);
        x.table(0, 2, 1);
        due.is("3: place 1", x.set(0, 1, 1), PLACE);
        due.is("4: place 1", x.copy(0, 1, 0, 0, 1), PLACE);
        due.is("3: place 0", x.set(0, 0, 1), 1);
    }

    /** "n ITEMS of a from i on come to b from j on" */
    private static void copyToBothEnds() {
        SpinBench x = new SpinBench(1);
        x.table(0, 1, 60);
        x.table(1, 1, 60);
        x.set(0, 0, 1);
        x.set(0, 1, 2);
        x.set(0, 58, 3);
        x.set(0, 59, 1);
        due.is("4: all 60", x.copy(0, 0, 1, 0, 60), 60);
        due.is("4: the first", Build.item(x, 1, 1, 0), 1);
        due.is("4: the last", Build.item(x, 1, 1, 59), 1);
        due.is("4: the last to the first", x.copy(0, 59, 1, 0, 1), 1);
        due.is("4: the first two to the last two", x.copy(0, 0, 1, 58, 2), 2);
        due.is("4: one came to 58", Build.item(x, 1, 1, 58), 1);
        due.is("4: one came to 59", Build.item(x, 1, 1, 59), 2);
        due.is("4: none came to 57", Build.item(x, 1, 1, 57), 0);
        due.is("4: none came to 1", Build.item(x, 1, 1, 1), 2);
    }

    /** "PLACE (i, j, n below 0, or beyond an end)": none from an end on is not beyond it. */
    private static void copyOfNone() {
        SpinBench x = new SpinBench(1);
        x.table(0, 0, 3);
        x.table(1, 0, 0);
        due.is("4: none at the end of a", x.copy(0, 3, 0, 0, 0), 0);
        due.is("4: none at the end of b", x.copy(0, 0, 0, 3, 0), 0);
        due.is("4: none of an empty one", x.copy(1, 0, 1, 0, 0), 0);
        due.is("4: none to an empty one", x.copy(0, 3, 1, 0, 0), 0);
        due.is("4: none beyond the end of a", x.copy(0, 4, 0, 0, 0), PLACE);
        due.is("4: none beyond the end of b", x.copy(0, 0, 0, 4, 0), PLACE);
        due.is("4: none beyond an empty one", x.copy(1, 1, 0, 0, 0), PLACE);
        due.is("4: none below a", x.copy(0, -1, 0, 0, 0), PLACE);
        due.is("4: none below b", x.copy(0, 0, 0, -1, 0), PLACE);
    }

    /** "PLACE (i, j, n below 0, or beyond an end)" */
    private static void copyBeyondAnEnd() {
        SpinBench x = new SpinBench(1);
        x.table(0, 0, 5);
        x.table(1, 0, 3);
        due.is("4: as far as b goes", x.copy(0, 2, 1, 0, 3), 3);
        due.is("4: as far as a goes", x.copy(1, 0, 0, 2, 3), 3);
        due.is("4: a ends", x.copy(0, 3, 1, 0, 3), PLACE);
        due.is("4: b ends", x.copy(0, 0, 1, 1, 3), PLACE);
        due.is("4: b is too short", x.copy(0, 0, 1, 0, 4), PLACE);
        due.is("4: a is too short", x.copy(1, 0, 0, 0, 4), PLACE);
        due.is("4: n below 0", x.copy(0, 1, 1, 1, -1), PLACE);
        due.is("4: i below 0", x.copy(0, -1, 1, 0, 2), PLACE);
        due.is("4: j below 0", x.copy(0, 0, 1, -1, 2), PLACE);
        due.is("4: status", x.status(), 2);
    }

    /** "PLACE (.. beyond an end)": i and n, j and n, added, wrap around. */
    private static void copyOfNumbersThatWrapAround() {
        SpinBench x = new SpinBench(1);
        x.table(0, 2, 60);
        int[][] wrong = {{MAX, 0, 1}, {0, MAX, 1}, {MAX, MAX, MAX}, {1, 0, MAX}, {0, 1, MAX}, {0, 0, MAX}, {MAX, 0, 2},
            {MAX, MAX, 2}, {MIN, 0, 1}, {0, MIN, 1}, {0, 0, MIN}, {60, 60, MIN}, {MIN, MIN, MIN}, {MIN, 0, MIN},
            {MAX, MAX, MIN}, {-1, -1, MAX}, {MIN, 0, MAX}, {60, 0, MAX}};
        for (int[] one : wrong) {
            due.is("4: " + one[0] + " " + one[1] + " " + one[2], x.copy(0, one[0], 0, one[1], one[2]), PLACE);
        }
    }

    /** "as they were ahead" */
    private static void copyOntoItself() {
        int[][] moves = {{0, 1, 7}, {1, 0, 7}, {0, 2, 6}, {2, 0, 6}, {0, 0, 8}, {3, 4, 1}, {0, 4, 4}};
        for (int[] move : moves) {
            SpinBench x = new SpinBench(1);
            int[] items = {1, 2, 3, 0, 2, 1, 0, 3};
            x.table(0, 0, 8);
            for (int i = 0; i < 8; i++) {
                x.set(0, i, items[i]);
            }
            String what = "4: " + move[2] + " from " + move[0] + " to " + move[1];
            due.is(what, x.copy(0, move[0], 0, move[1], move[2]), move[2]);
            int[] want = items.clone();
            for (int i = 0; i < move[2]; i++) {
                want[move[1] + i] = items[move[0] + i];
            }
            for (int i = 0; i < 8; i++) {
                due.is(what + ", ITEM " + i, Build.item(x, 0, 0, i), want[i]);
            }
        }
    }

    /** "5 STORE (TABLES of two LANES)" */
    private static void copyOfTwoLanes() {
        SpinBench x = new SpinBench(1);
        for (int lane = 0; lane < 3; lane++) {
            x.table(lane, lane, 2);
            x.table(lane + 3, lane, 2);
        }
        for (int a = 0; a < 6; a++) {
            for (int b = 0; b < 6; b++) {
                boolean alike = a % 3 == b % 3;
                due.is("4: " + a + " to " + b, x.copy(a, 0, b, 0, 2), alike ? 2 : STORE);
                due.is("33: status", x.status(), alike ? 0 : 5);
                due.is("4: none of " + a + " to " + b, x.copy(a, 0, b, 0, 0), alike ? 0 : STORE);
                due.is("4: places beyond", x.copy(a, 2, b, 0, 1), alike ? PLACE : STORE);
            }
        }
    }

    /** "1 NULL (a TABLE that is missing)" */
    private static void copyOfMissingTables() {
        SpinBench x = new SpinBench(1);
        x.table(0, 0, 2);
        due.is("4: a", x.copy(1, 0, 0, 0, 0), NULL);
        due.is("4: b", x.copy(0, 0, 1, 0, 0), NULL);
        due.is("4: both", x.copy(1, 0, 1, 0, 0), NULL);
        due.is("4: ahead of places", x.copy(0, -1, 1, -1, -1), NULL);
        due.is("4: BAD ahead of it", x.copy(1, 0, 8, 0, 0), BAD);
        due.is("4: BAD ahead of it", x.copy(-1, 0, 1, 0, 0), BAD);
        x.table(1, 2, 2);
        x.drop(1);
        due.is("4: its LANE of before does not matter", x.copy(0, 0, 1, 0, 0), NULL);
    }

    /** "how many ITEMS it had" */
    private static void dropOfAnEmptyTable() {
        SpinBench x = new SpinBench(1);
        x.table(0, 0, 0);
        x.table(7, 2, 60);
        due.is("5: none", x.drop(0), 0);
        due.is("5: no finding", x.status(), 0);
        due.is("5: 60", x.drop(7), 60);
        due.is("5: none left", x.count(2), 0);
    }

    /** "A TABLE is missing from now on"; "NULL" */
    private static void dropOfAMissingTable() {
        SpinBench x = new SpinBench(1);
        for (int table = 0; table < 8; table++) {
            due.is("5: never there", x.drop(table), NULL);
            x.table(table, 0, 3);
            due.is("5: there", x.drop(table), 3);
            due.is("5: twice", x.drop(table), NULL);
            due.is("5: set()", x.set(table, 0, 0), NULL);
            due.is("5: copy()", x.copy(table, 0, table, 0, 0), NULL);
            due.is("5: status", x.status(), 1);
        }
    }

    /** "0 at first": of a TABLE that comes after one that was dropped, too. */
    private static void dropThenNew() {
        SpinBench x = new SpinBench(1);
        x.table(0, 0, 2);
        x.set(0, 1, 3);
        x.drop(0);
        x.table(0, 0, 2);
        due.is("5: ITEM 1", Build.item(x, 0, 0, 1), 0);
    }

    /** "0: it had none, or there was none" */
    private static void statusAtFirst() {
        SpinBench x = new SpinBench(1);
        due.is("33: at first", x.status(), 0);
        x.table(9, 0, 0);
        x.set(-1, 0, 0);
        x.copy(0, 0, 8, 0, 0);
        x.drop(8);
        x.spins(0);
        due.is("33: BAD calls alone", x.status(), 0);
    }

    /** "the number of its FINDING" */
    private static void statusAfterEachFinding() {
        SpinBench x = new SpinBench(1);
        x.round(1);
        x.table(0, 0, 1);
        x.table(1, 1, 1);
        due.is("33: NULL", x.set(2, 0, 0), NULL);
        due.is("33: 1", x.status(), 1);
        due.is("33: PLACE", x.set(0, 1, 0), PLACE);
        due.is("33: 2", x.status(), 2);
        due.is("33: KIND", x.spins(0), -1000013);
        due.is("33: 3", x.status(), 3);
        due.is("33: SIZE", x.table(0, 0, -1), SIZE);
        due.is("33: 4", x.status(), 4);
        due.is("33: STORE", x.copy(0, 0, 1, 0, 1), STORE);
        due.is("33: 5", x.status(), 5);
        due.is("33: asking leaves it", x.status(), 5);
    }

    /** "0: it had none" */
    private static void statusIsClearedByEachCall() {
        SpinBench x = new SpinBench(1);
        x.pulse(1, 0, 0);
        String[] calls = {"table", "set", "copy", "drop", "spins", "run"};
        int[][] numbers = {{0, 0, 1}, {0, 0, 1}, {0, 0, 0, 0, 1}, {0}, {0}, {}};
        for (int i = 0; i < calls.length; i++) {
            x.drop(7);
            due.is("33: a finding ahead of " + calls[i], x.status(), 1);
            due.holds("33: " + calls[i] + " is fine", Calls.answer(x, calls[i], numbers[i]) >= 0);
            due.is("33: none after " + calls[i], x.status(), 0);
        }
    }

    /** "that was not BAD, STATE, FULL"; "(but cycled())" */
    private static void statusStaysAfterRefusals() {
        SpinBench x = new SpinBench(1);
        x.drop(7);
        x.table(0, 3, -1);
        x.set(8, 0, 0);
        x.copy(8, 0, 0, 0, 0);
        x.drop(-1);
        x.spins(0);
        due.is("33: after BAD", x.status(), 1);
        x.cycled(1, 0, 0, 0);
        due.is("33: after cycled()", x.status(), 1);
        x.cycled(1, 0, 0, 8);
        due.is("33: after a BAD cycled()", x.status(), 1);
        x.round(2);
        due.is("33: a RUN", x.run(), SpinBench.STATE);
        due.is("33: after STATE", x.status(), 1);
        SpinBench y = new SpinBench(1);
        Build.most(y, -1, Build.X);
        y.take(0, -1);
        y.store(0, 1);
        y.drop(7);
        due.is("33: a RUN", y.run(), SpinBench.FULL);
        due.is("33: after FULL", y.status(), 1);
    }
}
