import java.util.ArrayList;
import java.util.List;

/** All that calls can tell of an object. Looking uses the object up: two that are made alike are looked at, to compare them. */
record Look(int status, List<Integer> told, List<Long> rest) {
    private static final int MOST_ROUND = 8;

    static Look at(SpinBench x) {
        int status = x.status();
        List<Integer> told = List.of(x.told(0), x.told(1));
        List<Long> rest = new ArrayList<>();
        for (int what = 0; what < 5; what++) {
            rest.add((long) x.count(what));
        }
        for (int i = 0; i < 17; i++) {
            rest.add((long) x.trace(i));
        }
        lookAtSums(x, rest);
        lookAtProgram(x, rest);
        for (int table = 0; table < 8; table++) {
            lookAtTable(x, table, rest);
        }
        return new Look(status, told, rest);
    }

    private static void lookAtSums(SpinBench x, List<Long> rest) {
        for (int shelf = -1; shelf < 8; shelf++) {
            rest.add(x.digest(shelf));
        }
    }

    private static void lookAtProgram(SpinBench x, List<Long> rest) {
        int ops = x.count(1);
        for (int op = 0; op < ops; op++) {
            rest.add((long) x.kind(op));
            rest.add((long) x.spins(op));
            rest.add((long) x.ask(op, 0));
            rest.add((long) x.ask(op, 1));
        }
        int open = x.count(3);
        for (int i = 0; i < open; i++) {
            rest.add((long) x.end());
        }
        rest.add((long) x.run());
        lookAtSums(x, rest);
        int left = x.count(1);
        for (int i = 0; i < left; i++) {
            rest.add((long) x.back());
        }
    }

    /** ITEMS show by how they turn z, with a LETTER between them so that their order shows, too. */
    private static void lookAtTable(SpinBench x, int table, List<Long> rest) {
        int size = 0;
        while (size < MOST_ROUND && x.copy(table, 0, table, 0, size + 1) == size + 1) {
            size++;
        }
        if (size > 0) {
            x.clear(-1);
            x.add(-1, Build.Z, 1);
            x.round(size);
            x.cycled(1, 0, 1, table);
            x.delay(Build.Z, 0, 1);
            x.end();
            rest.add((long) x.run());
            rest.add(x.digest(-1));
            for (int i = 0; i < 4; i++) {
                x.back();
            }
        }
        rest.add((long) x.set(table, 0, 70000));
        rest.add((long) x.drop(table));
    }
}
