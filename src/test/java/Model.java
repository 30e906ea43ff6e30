import java.math.BigInteger;
import java.util.ArrayList;
import java.util.Arrays;
import java.util.List;
import java.util.Map;
import java.util.TreeMap;
import java.util.TreeSet;

/** The document, word by word and without any care for time or room: what SpinBench is held against. */
final class Model {
    static final int NONE = -1000000, BAD = -1000001, STATE = -1000002, FULL = -1000003;
    private static final BigInteger MOST = BigInteger.TEN.pow(12);

    /** A TERM's PRODUCT, then its powers of C0, S0, .. C3, S3. */
    private record Row(List<Integer> all) implements Comparable<Row> {
        @Override
        public int compareTo(Row other) {
            for (int i = 0; i < all.size(); i++) {
                int one = Integer.compare(all.get(i), other.all.get(i));
                if (one != 0) {
                    return one;
                }
            }
            return 0;
        }

        int product() {
            return all.get(0);
        }

        Row with(int index, int value) {
            List<Integer> changed = new ArrayList<>(all);
            changed.set(index, value);
            return new Row(changed);
        }

        Row times(int v) {
            return with(v + 1, all.get(v + 1) + 1);
        }
    }

    /** A SUM, or what is none: rows with whole numbers, in order. */
    private static final class Terms extends TreeMap<Row, BigInteger> {
        private static final long serialVersionUID = 1;

        void plus(Row row, BigInteger number) {
            merge(row, number, BigInteger::add);
        }

        Terms settled() {
            values().removeIf(number -> number.signum() == 0);
            return this;
        }

        boolean isSum() {
            if (size() > 300) {
                return false;
            }
            for (Map.Entry<Row, BigInteger> term : entrySet()) {
                if (term.getValue().abs().compareTo(MOST) > 0 || beyond(term.getKey())) {
                    return false;
                }
            }
            return true;
        }
    }

    private record Op(String name, int a, int b, int c, int d) { }

    private final int n;
    private final Terms[] sums = new Terms[9];
    private final int[][] tables = new int[8][];
    private final int[] lanes = new int[8];
    private List<Op> ops = new ArrayList<>();
    private List<Integer> bodies = new ArrayList<>();
    private int toldSteps = 0;
    private int toldPlace = NONE;
    private int finding = 0;

    Model(int n) {
        this.n = n < 1 ? 1 : n > 4 ? 4 : n;
        for (int i = 0; i < 9; i++) {
            sums[i] = new Terms();
        }
    }

    private static boolean beyond(Row row) {
        for (int k = 0; k < 4; k++) {
            if (row.all.get(1 + 2 * k) > 12 || row.all.get(2 + 2 * k) > 1) {
                return true;
            }
        }
        return false;
    }

    private static Row plain(int product) {
        return new Row(List.of(product, 0, 0, 0, 0, 0, 0, 0, 0));
    }

    /** Each Sk Sk as 1 less Ck Ck, over and over. */
    private static void expand(Row row, BigInteger number, Terms into) {
        for (int k = 0; k < 4; k++) {
            int sines = row.all.get(2 + 2 * k);
            if (sines >= 2) {
                Row less = row.with(2 + 2 * k, sines - 2);
                expand(less, number, into);
                expand(less.times(2 * k).times(2 * k), number.negate(), into);
                return;
            }
        }
        into.plus(row, number);
    }

    private int found(int number) {
        finding = number;
        return -1000010 - number;
    }

    private int fine(int answer) {
        finding = 0;
        return answer;
    }

    private boolean noTable(int t) {
        return t < 0 || t > 7;
    }

    int table(int t, int lane, int size) {
        if (noTable(t) || lane < 0 || lane > 2 || size > 60) {
            return BAD;
        }
        if (size < 0) {
            return found(4);
        }
        tables[t] = new int[size];
        lanes[t] = lane;
        return fine(size);
    }

    int set(int t, int i, int v) {
        if (noTable(t)) {
            return BAD;
        }
        if (tables[t] == null) {
            return found(1);
        }
        if (i < 0 || i >= tables[t].length) {
            return found(2);
        }
        int bits = lanes[t] == 0 ? 8 : lanes[t] == 1 ? 16 : 32;
        long low = Math.floorMod((long) v, 1L << bits);
        tables[t][i] = (int) (low >= 1L << bits - 1 ? low - (1L << bits) : low);
        return fine(tables[t][i]);
    }

    int copy(int a, int i, int b, int j, int size) {
        if (noTable(a) || noTable(b)) {
            return BAD;
        }
        if (tables[a] == null || tables[b] == null) {
            return found(1);
        }
        if (lanes[a] != lanes[b]) {
            return found(5);
        }
        if (i < 0 || j < 0 || size < 0 || (long) i + size > tables[a].length || (long) j + size > tables[b].length) {
            return found(2);
        }
        int[] ahead = tables[a].clone();
        for (int at = 0; at < size; at++) {
            tables[b][j + at] = ahead[i + at];
        }
        return fine(size);
    }

    int drop(int t) {
        if (noTable(t)) {
            return BAD;
        }
        if (tables[t] == null) {
            return found(1);
        }
        int had = tables[t].length;
        tables[t] = null;
        return fine(had);
    }

    private boolean noShelf(int shelf) {
        return shelf < -1 || shelf > 7;
    }

    private boolean noProduct(int product) {
        return product < 0 || product >= Math.pow(4, n);
    }

    private Terms at(int shelf) {
        return sums[shelf + 1];
    }

    private int become(int shelf, Terms made) {
        made.settled();
        if (!made.isSum()) {
            return FULL;
        }
        sums[shelf + 1] = made;
        return made.size();
    }

    private static Terms copyOf(Terms terms) {
        Terms made = new Terms();
        made.putAll(terms);
        return made;
    }

    int clear(int shelf) {
        if (noShelf(shelf)) {
            return BAD;
        }
        int had = at(shelf).size();
        sums[shelf + 1] = new Terms();
        return had;
    }

    int add(int shelf, int product, int number) {
        if (noShelf(shelf) || noProduct(product)) {
            return BAD;
        }
        Terms made = copyOf(at(shelf));
        made.plus(plain(product), BigInteger.valueOf(number));
        return become(shelf, made);
    }

    int take(int to, int from) {
        if (noShelf(to) || noShelf(from)) {
            return BAD;
        }
        return become(to, copyOf(at(from)));
    }

    int join(int to, int from, int number) {
        if (noShelf(to) || noShelf(from) || number < -3 || number > 3) {
            return BAD;
        }
        Terms made = copyOf(at(to));
        for (Map.Entry<Row, BigInteger> term : at(from).entrySet()) {
            made.plus(term.getKey(), term.getValue().multiply(BigInteger.valueOf(number)));
        }
        return become(to, made);
    }

    private static int axis(int product, int spin) {
        for (int i = 0; i < spin; i++) {
            product /= 4;
        }
        return product % 4;
    }

    private static boolean fit(int g, int p) {
        int unlike = 0;
        for (int spin = 0; spin < 4; spin++) {
            int a = axis(g, spin);
            int b = axis(p, spin);
            if (a != 0 && b != 0 && a != b) {
                unlike++;
            }
        }
        return unlike % 2 == 0;
    }

    private static int with(int g, int p) {
        int made = 0;
        int weight = 1;
        for (int spin = 0; spin < 4; spin++) {
            int a = axis(g, spin);
            int b = axis(p, spin);
            int third = a == 0 ? b : b == 0 ? a : a == b ? 0 : 6 - a - b;
            made += third * weight;
            weight *= 4;
        }
        return made;
    }

    private static int sign(int g, int p) {
        int turns = 0;
        for (int spin = 0; spin < 4; spin++) {
            String pair = "" + axis(g, spin) + axis(p, spin);
            if (pair.equals("12") || pair.equals("23") || pair.equals("31")) {
                turns++;
            }
            if (pair.equals("21") || pair.equals("32") || pair.equals("13")) {
                turns--;
            }
        }
        turns--;
        int left = Math.floorMod(turns, 4);
        if (left == 1 || left == 3) {
            throw new IllegalStateException("1 and 3 never come");
        }
        return left == 0 ? 1 : -1;
    }

    /** k below 0: by q quarters; else by LETTER k, forwards where q is 1, backwards where it is -1. */
    private int turn(int g, int k, int q) {
        int[] cosines = {1, 0, -1, 0};
        int[] sines = {0, 1, 0, -1};
        Terms made = new Terms();
        for (Map.Entry<Row, BigInteger> term : at(-1).entrySet()) {
            Row row = term.getKey();
            BigInteger number = term.getValue();
            if (fit(g, row.product())) {
                made.plus(row, number);
                continue;
            }
            Row other = row.with(0, with(g, row.product()));
            BigInteger signed = number.multiply(BigInteger.valueOf(sign(g, row.product())));
            if (k < 0) {
                made.plus(row, number.multiply(BigInteger.valueOf(cosines[q])));
                made.plus(other, signed.multiply(BigInteger.valueOf(sines[q])));
            } else {
                expand(row.times(2 * k), number, made);
                expand(other.times(2 * k + 1), signed.multiply(BigInteger.valueOf(q)), made);
            }
        }
        return become(-1, made);
    }

    int quarter(int product, int q) {
        return noProduct(product) || q < 0 || q > 3 ? BAD : turn(product, -1, q);
    }

    int letter(int product, int k, int way) {
        return noProduct(product) || k < 0 || k > 3 || way != 1 && way != -1 ? BAD : turn(product, k, way);
    }

    int terms(int shelf) {
        return noShelf(shelf) ? BAD : at(shelf).size();
    }

    long number(int shelf, int t) {
        if (noShelf(shelf) || t < 0 || t >= at(shelf).size()) {
            return BAD;
        }
        return new ArrayList<>(at(shelf).values()).get(t).longValueExact();
    }

    int power(int shelf, int t, int v) {
        if (noShelf(shelf) || t < 0 || t >= at(shelf).size() || v < -1 || v > 7) {
            return BAD;
        }
        return new ArrayList<>(at(shelf).keySet()).get(t).all.get(v + 1);
    }

    int same(int a, int b) {
        return noShelf(a) || noShelf(b) ? BAD : at(a).equals(at(b)) ? 1 : 0;
    }

    int product(int to, int a, int b) {
        if (noShelf(to) || noShelf(a) || noShelf(b)) {
            return BAD;
        }
        Terms made = new Terms();
        TreeSet<Row> rows = new TreeSet<>();
        for (Map.Entry<Row, BigInteger> left : at(a).entrySet()) {
            for (Map.Entry<Row, BigInteger> right : at(b).entrySet()) {
                if (left.getKey().product() != right.getKey().product()) {
                    continue;
                }
                List<Integer> added = new ArrayList<>();
                added.add(0);
                for (int v = 1; v <= 8; v++) {
                    added.add(left.getKey().all.get(v) + right.getKey().all.get(v));
                }
                Terms one = new Terms();
                expand(new Row(added), left.getValue().multiply(right.getValue()), one);
                for (Map.Entry<Row, BigInteger> term : one.entrySet()) {
                    if (beyond(term.getKey()) || term.getValue().abs().compareTo(MOST) > 0) {
                        return FULL;
                    }
                    rows.add(term.getKey());
                    made.plus(term.getKey(), term.getValue());
                }
            }
        }
        return rows.size() > 300 ? FULL : become(to, made);
    }

    long digest(int shelf) {
        if (noShelf(shelf)) {
            return BAD;
        }
        long h = 17;
        for (Map.Entry<Row, BigInteger> term : at(shelf).entrySet()) {
            for (int v : term.getKey().all) {
                h = 31 * h + v;
            }
            h = 31 * h + term.getValue().longValueExact();
        }
        return h;
    }

    private int put(Op op) {
        if (ops.size() == 40) {
            return FULL;
        }
        ops.add(op);
        return ops.size() - 1;
    }

    int pulse(int set, int f, int q) {
        boolean bad = set < 1 || set >= 1 << n || f < 0 || f > 3 || q < 0 || q > 3;
        return bad ? BAD : put(new Op("PULSE", set, f, q, 0));
    }

    int cycled(int set, int f, int q, int t) {
        boolean bad = set < 1 || set >= 1 << n || f < 0 || f > 3 || q < 0 || q > 3 || noTable(t);
        return bad ? BAD : put(new Op("CYCLED", set, f, q, t));
    }

    int delay(int product, int k, int way) {
        boolean bad = noProduct(product) || k < 0 || k > 3 || way != 1 && way != -1;
        return bad ? BAD : put(new Op("DELAY", product, k, way, 0));
    }

    /** Places of the ROUNDS around a place, the innermost last. */
    private List<Integer> around(int place) {
        List<Integer> open = new ArrayList<>();
        for (int i = 0; i < place; i++) {
            if (ops.get(i).name.equals("ROUND")) {
                open.add(i);
            }
            if (ops.get(i).name.equals("END")) {
                open.remove(open.size() - 1);
            }
        }
        return open;
    }

    int round(int often) {
        if (often < 1 || often > 8) {
            return BAD;
        }
        return around(ops.size()).size() == 3 ? STATE : put(new Op("ROUND", often, 0, 0, 0));
    }

    int end() {
        return around(ops.size()).isEmpty() ? STATE : put(new Op("END", 0, 0, 0, 0));
    }

    int store(int shelf, int number) {
        return shelf < 0 || shelf > 7 || number < -3 || number > 3 ? BAD : put(new Op("STORE", shelf, number, 0, 0));
    }

    int back() {
        if (ops.isEmpty()) {
            return STATE;
        }
        ops.remove(ops.size() - 1);
        return ops.size();
    }

    private static final List<String> NAMES =
            List.of("OP", "LEAD", "PULSE", "CYCLED", "DELAY", "ROUND", "END", "STORE");
    private static final String[] PARENTS = {null, "OP", "LEAD", "PULSE", "LEAD", "OP", "OP", "OP"};

    private boolean noOp(int op) {
        return op < 0 || op >= ops.size();
    }

    int kind(int op) {
        return noOp(op) ? BAD : NAMES.indexOf(ops.get(op).name);
    }

    int is(int op, int kind) {
        if (noOp(op) || kind < 0 || kind > 7) {
            return BAD;
        }
        for (String name = ops.get(op).name; name != null; name = PARENTS[NAMES.indexOf(name)]) {
            if (name.equals(NAMES.get(kind))) {
                return 1;
            }
        }
        return 0;
    }

    int spins(int op) {
        if (noOp(op)) {
            return BAD;
        }
        return is(op, 2) == 1 ? fine(ops.get(op).a) : found(3);
    }

    int ask(int op, int what) {
        if (noOp(op) || what < 0 || what > 1) {
            return BAD;
        }
        bodies = new ArrayList<>();
        return asked(op, what, ops.get(op).name);
    }

    /** The BODY for a KIND or the nearest that it is, too. */
    private int asked(int op, int what, String kind) {
        Op one = ops.get(op);
        String body = (what == 0 ? "COST " : "MARK ") + kind;
        switch (body) {
            case "COST OP":
                bodies.add(10);
                return 1;
            case "COST LEAD":
                bodies.add(11);
                return asked(op, 0, "OP") + 1;
            case "COST PULSE":
                bodies.add(12);
                return asked(op, 0, "LEAD") * Integer.bitCount(one.a);
            case "COST CYCLED":
                bodies.add(13);
                return asked(op, 0, "PULSE") + asked(op, 1, one.name);
            case "COST ROUND":
                bodies.add(14);
                return one.a;
            case "MARK OP":
                bodies.add(20);
                return op;
            case "MARK LEAD":
                bodies.add(21);
                return asked(op, 1, "OP") + asked(op, 0, one.name);
            case "MARK DELAY":
                bodies.add(22);
                return asked(op, 1, "LEAD") + one.b;
            case "MARK CYCLED":
                bodies.add(23);
                return one.d;
            case "MARK STORE":
                bodies.add(24);
                return asked(op, 1, "OP") + one.a;
            default:
                return asked(op, what, PARENTS[NAMES.indexOf(kind)]);
        }
    }

    int trace(int i) {
        return i < 0 || i >= bodies.size() || i >= 16 ? NONE : bodies.get(i);
    }

    /** The places of all OPS in the order of a RUN, with t of each: ROUNDS are written out. */
    private void writeOut(int from, int to, int t, List<int[]> steps) {
        int place = from;
        while (place < to) {
            steps.add(new int[] {place, t});
            if (ops.get(place).name.equals("ROUND")) {
                int end = place + 1;
                while (!(ops.get(end).name.equals("END") && around(end).get(around(end).size() - 1) == place)) {
                    end++;
                }
                for (int often = 0; often < ops.get(place).a; often++) {
                    writeOut(place + 1, end, often, steps);
                    steps.add(new int[] {end, often});
                }
                place = end;
            }
            place++;
        }
    }

    int run() {
        if (!around(ops.size()).isEmpty()) {
            return STATE;
        }
        List<int[]> steps = new ArrayList<>();
        writeOut(0, ops.size(), 0, steps);
        Terms[] ahead = sums.clone();
        toldSteps = 0;
        toldPlace = NONE;
        for (int[] step : steps) {
            int answer = toldSteps == 500 ? FULL : step(step[0], step[1]);
            if (answer < 0) {
                System.arraycopy(ahead, 0, sums, 0, 9);
                return answer;
            }
            toldSteps++;
        }
        return fine(toldSteps);
    }

    private int step(int place, int t) {
        toldPlace = place;
        Op op = ops.get(place);
        switch (op.name) {
            case "PULSE":
                return pulseBy(op, op.b);
            case "CYCLED":
                if (tables[op.d] == null) {
                    return found(1);
                }
                if (t >= tables[op.d].length) {
                    return found(2);
                }
                return pulseBy(op, (int) Math.floorMod((long) op.b + tables[op.d][t], 4L));
            case "DELAY":
                return turn(op.a, op.b, op.c);
            case "STORE":
                return join(op.a, -1, op.b);
            default:
                return 0;
        }
    }

    private int pulseBy(Op op, int f) {
        for (int spin = 0; spin < n; spin++) {
            if ((op.a & 1 << spin) != 0) {
                int about = (f == 0 || f == 2 ? 1 : 2) * (int) Math.pow(4, spin);
                if (turn(about, -1, f < 2 ? op.c : (4 - op.c) % 4) < 0) {
                    return FULL;
                }
            }
        }
        return 0;
    }

    int told(int what) {
        return what == 0 ? toldSteps : what == 1 ? toldPlace : BAD;
    }

    int count(int what) {
        switch (what) {
            case 0:
                return n;
            case 1:
                return ops.size();
            case 2:
                return (int) Arrays.stream(tables).filter(t -> t != null).count();
            case 3:
                return around(ops.size()).size();
            case 4:
                return Arrays.stream(sums).mapToInt(Terms::size).sum();
            default:
                return BAD;
        }
    }

    int status() {
        return finding;
    }
}
