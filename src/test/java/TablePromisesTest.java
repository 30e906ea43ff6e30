/** Promises 1 to 5 and 33, as far as TABLES go: ordinary calls, edges, wrong calls. */
public final class TablePromisesTest {
    private static final int NULL = -1000011, PLACE = -1000012, SIZE = -1000014, STORE = -1000015;
    private static final int BAD = SpinBench.BAD;
    private static final Due due = new Due("TablePromisesTest");

    public static void main(String[] args) {
        newObject();
        table();
        set();
        copy();
        drop();
        statusOfTables();
        due.end();
    }

    private static void newObject() {
        int[] asked = {Integer.MIN_VALUE, -1, 0, 1, 2, 3, 4, 5, Integer.MAX_VALUE};
        int[] spins = {1, 1, 1, 1, 2, 3, 4, 4, 4};
        for (int i = 0; i < asked.length; i++) {
            SpinBench x = new SpinBench(asked[i]);
            due.is("1: count(0) of " + asked[i], x.count(0), spins[i]);
            for (int what = 1; what <= 4; what++) {
                due.is("1: count(" + what + ")", x.count(what), 0);
            }
            for (int shelf = -1; shelf < 8; shelf++) {
                due.is("1: terms", x.terms(shelf), 0);
            }
            for (int table = 0; table < 8; table++) {
                due.is("1: drop", x.drop(table), NULL);
            }
            due.is("1: kind", x.kind(0), BAD);
            due.is("1: greatest product", x.add(0, (1 << 2 * spins[i]) - 1, 1), 1);
            due.is("1: product beyond", x.add(0, 1 << 2 * spins[i], 1), BAD);
            due.is("1: greatest set", x.pulse((1 << spins[i]) - 1, 0, 0), 0);
            due.is("1: set beyond", x.pulse(1 << spins[i], 0, 0), BAD);
        }
    }

    private static void table() {
        SpinBench x = new SpinBench(1);
        due.is("2: 60 items", x.table(0, 2, 60), 60);
        due.is("2: none", x.table(7, 0, 0), 0);
        due.is("2: shorts", x.table(3, 1, 5), 5);
        due.is("2: how many", x.count(2), 3);
        due.is("2: 61", x.table(0, 2, 61), BAD);
        due.is("2: lane 3", x.table(0, 3, 1), BAD);
        due.is("2: lane -1", x.table(0, -1, 1), BAD);
        due.is("2: table 8", x.table(8, 0, 1), BAD);
        due.is("2: table -1", x.table(-1, 0, 1), BAD);
        due.is("2: below none", x.table(0, 0, -1), SIZE);
        due.is("2: far below none", x.table(0, 0, Integer.MIN_VALUE), SIZE);
        due.is("2: BAD ahead of SIZE, lane", x.table(0, 3, -1), BAD);
        due.is("2: BAD ahead of SIZE, table", x.table(9, 0, -1), BAD);
        due.is("2: still ints", x.set(0, 59, 70000), 70000);
        due.is("2: in place of what is there", x.table(0, 2, 60), 60);
        due.is("2: copied from it", x.table(1, 2, 1), 1);
        due.is("2: mark", x.set(1, 0, 5), 5);
        due.is("2: items are 0 again", x.copy(0, 59, 1, 0, 1), 1);
        due.is("2: pulse by the item", Build.firstItem(x, 1), 0);
        due.is("2: count", x.count(2), 4);
    }

    private static void set() {
        SpinBench x = new SpinBench(1);
        due.is("3: missing", x.set(0, 0, 1), NULL);
        x.table(0, 0, 3);
        x.table(1, 1, 3);
        x.table(2, 2, 3);
        int[] values = {0, 1, -1, 127, 128, 200, -128, -129, 255, 256, 32767, 32768, 65535, 65536, 70000, -40000,
            Integer.MAX_VALUE, Integer.MIN_VALUE};
        int[] bytes = {0, 1, -1, 127, -128, -56, -128, 127, -1, 0, -1, 0, -1, 0, 112, -64, -1, 0};
        int[] shorts = {0, 1, -1, 127, 128, 200, -128, -129, 255, 256, 32767, -32768, -1, 0, 4464, 25536, -1, 0};
        for (int i = 0; i < values.length; i++) {
            due.is("3: byte of " + values[i], x.set(0, i % 3, values[i]), bytes[i]);
            due.is("3: short of " + values[i], x.set(1, i % 3, values[i]), shorts[i]);
            due.is("3: int of " + values[i], x.set(2, i % 3, values[i]), values[i]);
        }
        for (int i = 0; i < 3; i++) {
            due.is("3: place " + i, x.set(0, i, 7), 7);
        }
        due.is("3: place 3", x.set(0, 3, 7), PLACE);
        due.is("3: place -1", x.set(0, -1, 7), PLACE);
        due.is("3: place far off", x.set(0, Integer.MAX_VALUE, 7), PLACE);
        due.is("3: table 8", x.set(8, 0, 7), BAD);
        due.is("3: table -1", x.set(-1, 0, 7), BAD);
        due.is("3: missing ahead of place", x.set(5, -1, 7), NULL);
        x.table(4, 0, 0);
        due.is("3: empty", x.set(4, 0, 7), PLACE);
        x.set(0, 0, 6);
        due.is("3: kept", Build.firstItem(x, 0), 2);
    }

    private static void copy() {
        SpinBench x = new SpinBench(1);
        x.table(0, 0, 5);
        for (int i = 0; i < 5; i++) {
            x.set(0, i, i % 4);
        }
        x.table(1, 0, 4);
        due.is("4: all of one", x.copy(0, 1, 1, 0, 4), 4);
        due.is("4: none", x.copy(0, 5, 1, 4, 0), 0);
        due.is("4: none, beyond the end of a", x.copy(0, 6, 1, 4, 0), PLACE);
        due.is("4: none, beyond the end of b", x.copy(0, 5, 1, 5, 0), PLACE);
        due.is("4: beyond the end of a", x.copy(0, 2, 1, 0, 4), PLACE);
        due.is("4: beyond the end of b", x.copy(0, 0, 1, 1, 4), PLACE);
        due.is("4: i", x.copy(0, -1, 1, 0, 1), PLACE);
        due.is("4: j", x.copy(0, 0, 1, -1, 1), PLACE);
        due.is("4: n", x.copy(0, 0, 1, 0, -1), PLACE);
        due.is("4: n far off", x.copy(0, 1, 1, 1, Integer.MAX_VALUE), PLACE);
        due.is("4: n far below", x.copy(0, 1, 1, 1, Integer.MIN_VALUE), PLACE);
        due.is("4: i far off", x.copy(0, Integer.MAX_VALUE, 1, 0, 1), PLACE);
        due.is("4: table a", x.copy(8, 0, 1, 0, 1), BAD);
        due.is("4: table b", x.copy(0, 0, -1, 0, 1), BAD);
        due.is("4: a is missing", x.copy(2, 0, 1, 0, 1), NULL);
        due.is("4: b is missing", x.copy(1, 0, 2, 0, 1), NULL);
        x.table(2, 1, 5);
        due.is("4: two lanes", x.copy(0, 0, 2, 0, 1), STORE);
        due.is("4: two lanes ahead of places", x.copy(0, -1, 2, 0, 1), STORE);
        due.is("4: missing ahead of lanes", x.copy(0, 0, 3, 0, 1), NULL);
        for (int i = 0; i < 4; i++) {
            x.table(3, 0, 1);
            x.copy(1, i, 3, 0, 1);
            due.is("4: item " + i, Build.firstItem(x, 3), (i + 1) % 4);
        }
        overlap();
    }

    private static void overlap() {
        int[][] moves = {{0, 1, 4}, {1, 0, 4}, {0, 0, 5}, {0, 2, 3}};
        int[][] want = {{0, 0, 1, 2, 3}, {1, 2, 3, 0, 0}, {0, 1, 2, 3, 0}, {0, 1, 0, 1, 2}};
        for (int m = 0; m < moves.length; m++) {
            SpinBench x = new SpinBench(1);
            x.table(0, 2, 5);
            x.table(1, 2, 1);
            for (int i = 0; i < 5; i++) {
                x.set(0, i, i % 4);
            }
            due.is("4: on itself", x.copy(0, moves[m][0], 0, moves[m][1], moves[m][2]), moves[m][2]);
            for (int i = 0; i < 5; i++) {
                x.copy(0, i, 1, 0, 1);
                due.is("4: move " + m + " item " + i, Build.firstItem(x, 1), want[m][i]);
            }
        }
    }

    private static void drop() {
        SpinBench x = new SpinBench(1);
        x.table(0, 0, 3);
        x.table(1, 2, 0);
        due.is("5: three items", x.drop(0), 3);
        due.is("5: again", x.drop(0), NULL);
        due.is("5: no items", x.drop(1), 0);
        due.is("5: table 8", x.drop(8), BAD);
        due.is("5: table -1", x.drop(-1), BAD);
        due.is("5: how many", x.count(2), 0);
        due.is("5: new again", x.table(0, 1, 2), 2);
        due.is("5: its lane", x.set(0, 1, 40000), -25536);
    }

    private static void statusOfTables() {
        SpinBench x = new SpinBench(1);
        due.is("33: none yet", x.status(), 0);
        x.set(0, 0, 0);
        due.is("33: NULL", x.status(), 1);
        x.table(0, 0, 61);
        due.is("33: as it was after BAD", x.status(), 1);
        x.cycled(1, 0, 1, 0);
        due.is("33: as it was after cycled()", x.status(), 1);
        x.table(0, 0, 2);
        due.is("33: none", x.status(), 0);
        x.set(0, 2, 0);
        due.is("33: PLACE", x.status(), 2);
        x.set(9, 0, 0);
        x.copy(9, 0, 0, 0, 0);
        x.drop(9);
        due.is("33: as it was after BAD calls", x.status(), 2);
        x.set(0, 0, 0);
        due.is("33: none by set()", x.status(), 0);
        x.table(0, 0, -1);
        due.is("33: SIZE", x.status(), 4);
        due.is("33: ITEMS as they were", x.copy(0, 0, 0, 0, 2), 2);
        due.is("33: none by copy()", x.status(), 0);
        x.table(1, 1, 2);
        x.copy(0, 0, 1, 0, 1);
        due.is("33: STORE", x.status(), 5);
        x.drop(1);
        due.is("33: none by drop()", x.status(), 0);
        x.drop(1);
        due.is("33: NULL by drop()", x.status(), 1);
        x.add(-1, 9, 9);
        x.kind(7);
        x.count(2);
        x.ask(0, 1);
        x.told(0);
        due.is("33: other calls leave it", x.status(), 1);
    }
}
