import java.util.Arrays;

/** A bench for small sets of spins led by programs of pulses; ../shared/DOC.md tells what each call answers. */
public final class SpinBench {
    public static final int NONE = -1000000, BAD = -1000001, STATE = -1000002, FULL = -1000003;

    // A FINDING is answered as FOUND less its number.
    private static final int FOUND = -1000010;
    private static final int NULL_FOUND = 1, PLACE_FOUND = 2, KIND_FOUND = 3, SIZE_FOUND = 4, STORE_FOUND = 5;
    private static final int DONE = 0;

    private static final int MOST_SPINS = 4, SHELVES = 8, LETTERS = 4, POWERS = 8, MOST_TIMES = 3;
    private static final int TABLES = 8, LANES = 3, MOST_ITEMS = 60;
    private static final int MOST_OPS = 40, MOST_OPEN = 3, MOST_OFTEN = 8, MOST_STEPS = 500, MOST_TRACED = 16;
    private static final int KINDS = 8;
    private static final int OP = 0, LEAD = 1, PULSE = 2, CYCLED = 3, DELAY = 4, ROUND = 5, END = 6, STORE = 7;

    private static final int MOST_TERMS = 300, MOST_POWER = 12;
    private static final long MOST_NUMBER = 1000000000000L;

    // A TERM's key is its PRODUCT above ROW_BITS bits of powers, those of C0, S0, C1, .. from the highest bits down:
    // so TERMS are in order when their keys are.
    private static final int ROW_BITS = 20, LETTER_BITS = 5, COSINE_MASK = 15;

    private final int spinCount;
    private final Sum[] sums = new Sum[SHELVES + 1];
    private final Sum[] sumsAhead = new Sum[SHELVES + 1];
    private final Sum work;
    private final Mixer mixer = new Mixer();
    private final Table[] tables = new Table[TABLES];
    private final Op[] program = new Op[MOST_OPS];
    private int length;
    private Round latestOpen;
    private int next;
    private int stepsDone;
    private int lastBegun = NONE;
    private final int[] bodies = new int[MOST_TRACED];
    private int bodiesBegun;
    private int latestFinding;

    public SpinBench(int n) {
        spinCount = Math.max(1, Math.min(MOST_SPINS, n));
        work = new Sum();
        sums[0] = work;
        for (int i = 1; i < sums.length; i++) {
            sums[i] = new Sum();
        }
        for (int i = 0; i < sumsAhead.length; i++) {
            sumsAhead[i] = new Sum();
        }
        for (int i = 0; i < TABLES; i++) {
            tables[i] = new Table();
        }
    }

    // ---- tables

    public int table(int table, int lane, int n) {
        Table one = tableAt(table);
        if (one == null || !within(lane, 0, LANES - 1) || n > MOST_ITEMS) {
            return BAD;
        }
        if (n < 0) {
            return found(SIZE_FOUND);
        }
        one.make(lane, n);
        return notFound(n);
    }

    public int set(int table, int i, int v) {
        Table one = tableAt(table);
        if (one == null) {
            return BAD;
        }
        if (one.missing) {
            return found(NULL_FOUND);
        }
        if (!one.hasPlaces(i, 1)) {
            return found(PLACE_FOUND);
        }
        one.items[i] = one.fitted(v);
        return notFound(one.items[i]);
    }

    public int copy(int a, int i, int b, int j, int n) {
        Table from = tableAt(a);
        Table to = tableAt(b);
        if (from == null || to == null) {
            return BAD;
        }
        if (from.missing || to.missing) {
            return found(NULL_FOUND);
        }
        if (from.lane != to.lane) {
            return found(STORE_FOUND);
        }
        if (!from.hasPlaces(i, n) || !to.hasPlaces(j, n)) {
            return found(PLACE_FOUND);
        }
        System.arraycopy(from.items, i, to.items, j, n);
        return notFound(n);
    }

    public int drop(int table) {
        Table one = tableAt(table);
        if (one == null) {
            return BAD;
        }
        if (one.missing) {
            return found(NULL_FOUND);
        }
        one.missing = true;
        return notFound(one.size);
    }

    // ---- sums (shelf: 0 .. 7; -1: WORK)

    public int clear(int shelf) {
        Sum sum = sumAt(shelf);
        if (sum == null) {
            return BAD;
        }
        int had = sum.size;
        sum.size = 0;
        return had;
    }

    public int add(int shelf, int product, int number) {
        Sum sum = sumAt(shelf);
        if (sum == null || !isProduct(product)) {
            return BAD;
        }
        mixer.begin();
        mixer.putSum(sum, 1);
        mixer.put(product << ROW_BITS, number);
        return mixer.settle(sum) ? sum.size : FULL;
    }

    public int take(int to, int from) {
        Sum target = sumAt(to);
        Sum source = sumAt(from);
        if (target == null || source == null) {
            return BAD;
        }
        target.become(source);
        return target.size;
    }

    public int join(int to, int from, int number) {
        Sum target = sumAt(to);
        Sum source = sumAt(from);
        if (target == null || source == null || !within(number, -MOST_TIMES, MOST_TIMES)) {
            return BAD;
        }
        return mixer.joinSums(target, source, number) ? target.size : FULL;
    }

    public int quarter(int product, int q) {
        if (!isProduct(product) || !within(q, 0, 3)) {
            return BAD;
        }
        return turnByQuarters(product, q) ? work.size : FULL;
    }

    public int letter(int product, int k, int way) {
        if (!isProduct(product) || !within(k, 0, LETTERS - 1) || !isWay(way)) {
            return BAD;
        }
        return turnByLetter(product, k, way) ? work.size : FULL;
    }

    public int terms(int shelf) {
        Sum sum = sumAt(shelf);
        return sum == null ? BAD : sum.size;
    }

    public long number(int shelf, int t) {
        Sum sum = sumAt(shelf);
        if (sum == null || !within(t, 0, sum.size - 1)) {
            return BAD;
        }
        return sum.numbers[t];
    }

    public int power(int shelf, int t, int v) {
        Sum sum = sumAt(shelf);
        if (sum == null || !within(t, 0, sum.size - 1) || !within(v, -1, POWERS - 1)) {
            return BAD;
        }
        return v < 0 ? productOf(sum.keys[t]) : powerOf(sum.keys[t], v);
    }

    public int same(int a, int b) {
        Sum one = sumAt(a);
        Sum other = sumAt(b);
        if (one == null || other == null) {
            return BAD;
        }
        return one.isLike(other) ? 1 : 0;
    }

    public int product(int to, int a, int b) {
        Sum target = sumAt(to);
        Sum left = sumAt(a);
        Sum right = sumAt(b);
        if (target == null || left == null || right == null) {
            return BAD;
        }
        return mixer.multiply(target, left, right) ? target.size : FULL;
    }

    public long digest(int shelf) {
        Sum sum = sumAt(shelf);
        if (sum == null) {
            return BAD;
        }
        long h = 17;
        for (int t = 0; t < sum.size; t++) {
            h = 31 * h + productOf(sum.keys[t]);
            for (int v = 0; v < POWERS; v++) {
                h = 31 * h + powerOf(sum.keys[t], v);
            }
            h = 31 * h + sum.numbers[t];
        }
        return h;
    }

    // ---- programs

    public int pulse(int set, int f, int q) {
        if (!isPulse(set, f, q)) {
            return BAD;
        }
        return append(new Pulse(length, latestOpen, set, f, q));
    }

    public int cycled(int set, int f, int q, int table) {
        if (!isPulse(set, f, q) || !within(table, 0, TABLES - 1)) {
            return BAD;
        }
        return append(new Cycled(length, latestOpen, set, f, q, table));
    }

    public int delay(int product, int k, int way) {
        if (!isProduct(product) || !within(k, 0, LETTERS - 1) || !isWay(way)) {
            return BAD;
        }
        return append(new Delay(length, latestOpen, product, k, way));
    }

    public int round(int often) {
        if (!within(often, 1, MOST_OFTEN)) {
            return BAD;
        }
        if (openRounds() >= MOST_OPEN) {
            return STATE;
        }
        Round round = new Round(length, latestOpen, often);
        int place = append(round);
        if (place != FULL) {
            latestOpen = round;
        }
        return place;
    }

    public int end() {
        Round ended = latestOpen;
        if (ended == null) {
            return STATE;
        }
        int place = append(new End(length, ended));
        if (place != FULL) {
            latestOpen = ended.around;
        }
        return place;
    }

    public int store(int shelf, int number) {
        if (!within(shelf, 0, SHELVES - 1) || !within(number, -MOST_TIMES, MOST_TIMES)) {
            return BAD;
        }
        return append(new Store(length, latestOpen, shelf, number));
    }

    public int back() {
        Op last = opAt(length - 1);
        if (last == null) {
            return STATE;
        }
        length--;
        program[length] = null;
        // What was open ahead of an OP is what stands around it; of an END that is the ROUND that it ended.
        latestOpen = last.around;
        return length;
    }

    public int kind(int op) {
        Op one = opAt(op);
        return one == null ? BAD : one.ownKind();
    }

    public int is(int op, int kind) {
        Op one = opAt(op);
        if (one == null || !within(kind, 0, KINDS - 1)) {
            return BAD;
        }
        return one.isOfKind(kind) ? 1 : 0;
    }

    public int spins(int op) {
        Op one = opAt(op);
        if (one == null) {
            return BAD;
        }
        if (one instanceof Pulse pulse) {
            return notFound(pulse.spinSet);
        }
        return found(KIND_FOUND);
    }

    public int ask(int op, int what) {
        Op one = opAt(op);
        if (one == null || !within(what, 0, 1)) {
            return BAD;
        }
        bodiesBegun = 0;
        return what == 0 ? one.cost(this) : one.mark(this);
    }

    public int trace(int i) {
        return within(i, 0, bodiesBegun - 1) ? bodies[i] : NONE;
    }

    public int run() {
        if (latestOpen != null) {
            return STATE;
        }
        takeAll(sumsAhead, sums);
        stepsDone = 0;
        lastBegun = NONE;
        int outcome = DONE;
        Op op = opAt(0);
        for (int step = 0; step < MOST_STEPS && op != null && outcome == DONE; step++) {
            lastBegun = op.place;
            next = op.place + 1;
            outcome = op.perform(this);
            if (outcome == DONE) {
                stepsDone++;
                op = opAt(next);
            }
        }
        if (op == null) {
            return notFound(stepsDone);
        }
        takeAll(sums, sumsAhead);
        return outcome == DONE || outcome == FULL ? FULL : found(outcome);
    }

    public int told(int what) {
        switch (what) {
            case 0:
                return stepsDone;
            case 1:
                return lastBegun;
            default:
                return BAD;
        }
    }

    public int count(int what) {
        switch (what) {
            case 0:
                return spinCount;
            case 1:
                return length;
            case 2:
                return presentTables();
            case 3:
                return openRounds();
            case 4:
                return allTerms();
            default:
                return BAD;
        }
    }

    public int status() {
        return latestFinding;
    }

    // ---- within

    private static boolean within(int value, int least, int most) {
        return value >= least && value <= most;
    }

    private static boolean isWay(int way) {
        return way == 1 || way == -1;
    }

    private boolean isProduct(int product) {
        return within(product, 0, (1 << (2 * spinCount)) - 1);
    }

    private boolean isPulse(int set, int f, int q) {
        return within(set, 1, (1 << spinCount) - 1) && within(f, 0, 3) && within(q, 0, 3);
    }

    private Table tableAt(int table) {
        return within(table, 0, TABLES - 1) ? tables[table] : null;
    }

    private Sum sumAt(int shelf) {
        return within(shelf, -1, SHELVES - 1) ? sums[shelf + 1] : null;
    }

    private Op opAt(int place) {
        return within(place, 0, length - 1) ? program[place] : null;
    }

    private int found(int finding) {
        latestFinding = finding;
        return FOUND - finding;
    }

    private int notFound(int answer) {
        latestFinding = 0;
        return answer;
    }

    private int append(Op op) {
        int place = length;
        if (place >= MOST_OPS) {
            return FULL;
        }
        program[place] = op;
        length++;
        return place;
    }

    private int presentTables() {
        int present = 0;
        for (int i = 0; i < TABLES; i++) {
            if (!tables[i].missing) {
                present++;
            }
        }
        return present;
    }

    private int openRounds() {
        int open = 0;
        for (Round round = latestOpen; round != null; round = round.around) {
            open++;
        }
        return open;
    }

    private int allTerms() {
        int all = 0;
        for (int i = 0; i < sums.length; i++) {
            all += sums[i].size;
        }
        return all;
    }

    private static void takeAll(Sum[] to, Sum[] from) {
        for (int i = 0; i < to.length && i < from.length; i++) {
            to[i].become(from[i]);
        }
    }

    private void leaveBody(int body) {
        if (bodiesBegun < MOST_TRACED) {
            bodies[bodiesBegun] = body;
            bodiesBegun++;
        }
    }

    /** 0 where G and P FIT, else the sign of G WITH P. */
    private static int signOf(int g, int p) {
        int quarters = 0;
        for (int spin = 0; spin < MOST_SPINS; spin++) {
            int a = (g >> (2 * spin)) & 3;
            int b = (p >> (2 * spin)) & 3;
            if (a != 0 && b != 0 && a != b) {
                quarters += b - a == 1 || b - a == -2 ? 1 : -1;
            }
        }
        // Each SPIN that counts moves it by one: an even number of them leaves it even.
        if ((quarters & 1) == 0) {
            return 0;
        }
        return ((quarters - 1) & 3) == 0 ? 1 : -1;
    }

    /** G WITH P, the rest of the key as it is: axes are numbered so that the third of two is their exclusive or. */
    private static int withProduct(int key, int g) {
        return key ^ (g << ROW_BITS);
    }

    private boolean turnByQuarters(int about, int q) {
        if (q == 0) {
            return true;
        }
        mixer.begin();
        for (int t = 0; t < work.size; t++) {
            int key = work.keys[t];
            long number = work.numbers[t];
            int sign = signOf(about, productOf(key));
            if (sign == 0) {
                mixer.put(key, number);
            } else if (q == 2) {
                mixer.put(key, -number);
            } else {
                mixer.put(withProduct(key, about), q == 1 ? number * sign : -number * sign);
            }
        }
        return mixer.settle(work);
    }

    private boolean turnByLetter(int about, int k, int way) {
        mixer.begin();
        for (int t = 0; t < work.size; t++) {
            int key = work.keys[t];
            long number = work.numbers[t];
            int sign = signOf(about, productOf(key));
            if (sign == 0) {
                mixer.put(key, number);
            } else {
                mixer.put(key + oneCosine(k), number);
                mixer.putTimesSine(withProduct(key, about), k, number * sign * way);
            }
        }
        return mixer.settle(work);
    }

    private static int productOf(int key) {
        return key >>> ROW_BITS;
    }

    private static int oneSine(int k) {
        return 1 << (LETTER_BITS * (LETTERS - 1 - k));
    }

    private static int oneCosine(int k) {
        return oneSine(k) << 1;
    }

    private static int cosinesOf(int key, int k) {
        return (key >> (LETTER_BITS * (LETTERS - 1 - k) + 1)) & COSINE_MASK;
    }

    private static int sinesOf(int key, int k) {
        return (key >> (LETTER_BITS * (LETTERS - 1 - k))) & 1;
    }

    private static int powerOf(int key, int v) {
        return (v & 1) == 0 ? cosinesOf(key, v >> 1) : sinesOf(key, v >> 1);
    }

    private static final class Table {
        private final int[] items = new int[MOST_ITEMS];
        private boolean missing = true;
        private int lane;
        private int size;

        private void make(int newLane, int newSize) {
            missing = false;
            lane = newLane;
            size = newSize;
            Arrays.fill(items, 0);
        }

        private boolean hasPlaces(int from, int n) {
            // The difference can not run over, once all are at least 0.
            return from >= 0 && n >= 0 && from <= size - n;
        }

        private int fitted(int v) {
            switch (lane) {
                case 0:
                    return (byte) v;
                case 1:
                    return (short) v;
                default:
                    return v;
            }
        }
    }

    private static final class Sum {
        private final int[] keys = new int[MOST_TERMS];
        private final long[] numbers = new long[MOST_TERMS];
        private int size;

        private void become(Sum other) {
            System.arraycopy(other.keys, 0, keys, 0, other.size);
            System.arraycopy(other.numbers, 0, numbers, 0, other.size);
            size = other.size;
        }

        private boolean isLike(Sum other) {
            if (size != other.size) {
                return false;
            }
            for (int t = 0; t < size; t++) {
                if (keys[t] != other.keys[t] || numbers[t] != other.numbers[t]) {
                    return false;
                }
            }
            return true;
        }
    }

    /** Where TERMS are added up: only what comes out of it needs to be a SUM, so it holds more on the way. */
    private static final class Mixer {
        // A TURN by a LETTER makes three TERMS of one at most; and powers of 14 at most, which a key has room for.
        private static final int MOST_ENTRIES = 3 * MOST_TERMS;
        private static final int SLOT_BITS = 11, SLOTS = 1 << SLOT_BITS, SPREAD = 0x9E3779B1;

        private int[] keys = new int[MOST_ENTRIES];
        private long[] numbers = new long[MOST_ENTRIES];
        private int[] spareKeys = new int[MOST_ENTRIES];
        private long[] spareNumbers = new long[MOST_ENTRIES];
        private int size;
        // A slot has the place of an entry, and 1; slots are found by the entries' keys.
        private final int[] slots = new int[SLOTS];
        private final int[] slotsUsed = new int[MOST_ENTRIES];
        private int used;

        private void begin() {
            for (int i = 0; i < used; i++) {
                slots[slotsUsed[i]] = 0;
            }
            used = 0;
            size = 0;
        }

        private void put(int key, long number) {
            int slot = (key * SPREAD) >>> (32 - SLOT_BITS);
            for (int tries = 0; tries < SLOTS; tries++) {
                int entry = slots[slot] - 1;
                if (entry < 0) {
                    enter(slot, key, number);
                    return;
                }
                if (keys[entry] == key) {
                    numbers[entry] += number;
                    return;
                }
                slot = (slot + 1) & (SLOTS - 1);
            }
        }

        private void enter(int slot, int key, long number) {
            if (size >= MOST_ENTRIES || used >= MOST_ENTRIES) {
                return;
            }
            slotsUsed[used] = slot;
            used++;
            keys[size] = key;
            numbers[size] = number;
            size++;
            slots[slot] = size;
        }

        private void putSum(Sum sum, int times) {
            for (int t = 0; t < sum.size; t++) {
                put(sum.keys[t], sum.numbers[t] * times);
            }
        }

        private void putTimesSine(int key, int k, long number) {
            int sine = oneSine(k);
            if ((key & sine) == 0) {
                put(key + sine, number);
            } else {
                put(key - sine, number);
                put(key - sine + 2 * oneCosine(k), -number);
            }
        }

        private boolean joinSums(Sum to, Sum from, int number) {
            begin();
            putSum(to, 1);
            putSum(from, number);
            return settle(to);
        }

        private boolean multiply(Sum to, Sum left, Sum right) {
            begin();
            for (int i = 0; i < left.size; i++) {
                for (int j = 0; j < right.size; j++) {
                    if (productOf(left.keys[i]) != productOf(right.keys[j])) {
                        continue;
                    }
                    if (isBeyond(left.numbers[i], right.numbers[j])
                            || !putRows(left.keys[i], right.keys[j], left.numbers[i] * right.numbers[j])) {
                        return false;
                    }
                }
            }
            return settle(to);
        }

        private static boolean isBeyond(long a, long b) {
            return b != 0 && Math.abs(a) > MOST_NUMBER / Math.abs(b);
        }

        /** False: a power is beyond, or there are more unlike rows than a SUM may have, those that add up to 0 too. */
        private boolean putRows(int a, int b, long number) {
            int row = 0;
            int squares = 0;
            for (int k = 0; k < LETTERS; k++) {
                int cosines = cosinesOf(a, k) + cosinesOf(b, k);
                int sines = sinesOf(a, k) + sinesOf(b, k);
                if (cosines + (sines & 2) > MOST_POWER) {
                    return false;
                }
                row += cosines * oneCosine(k) + (sines & 1) * oneSine(k);
                squares |= (sines >> 1) << k;
            }
            // Of each square of a sine either the 1 is taken, or the two cosines, with their minus.
            for (int taken = 0; taken < (1 << LETTERS); taken++) {
                if ((taken & squares) == taken) {
                    put(row + squaredCosines(taken), (Integer.bitCount(taken) & 1) == 0 ? number : -number);
                }
            }
            return size <= MOST_TERMS;
        }

        private static int squaredCosines(int letters) {
            int row = 0;
            for (int k = 0; k < LETTERS; k++) {
                if (((letters >> k) & 1) != 0) {
                    row += 2 * oneCosine(k);
                }
            }
            return row;
        }

        /** The SUM of what was put comes to a shelf, if it is one: what was put is used up. */
        private boolean settle(Sum to) {
            dropZeros();
            if (!isSum()) {
                return false;
            }
            sort();
            System.arraycopy(keys, 0, to.keys, 0, size);
            System.arraycopy(numbers, 0, to.numbers, 0, size);
            to.size = size;
            return true;
        }

        private void dropZeros() {
            int left = 0;
            for (int i = 0; i < size; i++) {
                if (numbers[i] != 0) {
                    keys[left] = keys[i];
                    numbers[left] = numbers[i];
                    left++;
                }
            }
            size = left;
        }

        private boolean isSum() {
            if (size > MOST_TERMS) {
                return false;
            }
            for (int i = 0; i < size; i++) {
                if (Math.abs(numbers[i]) > MOST_NUMBER) {
                    return false;
                }
                for (int k = 0; k < LETTERS; k++) {
                    if (cosinesOf(keys[i], k) > MOST_POWER) {
                        return false;
                    }
                }
            }
            return true;
        }

        private void sort() {
            for (int width = 1; width < size; width += width) {
                for (int from = 0; from < size; from += width + width) {
                    merge(from, Math.min(from + width, size), Math.min(from + width + width, size));
                }
                int[] mergedKeys = spareKeys;
                long[] mergedNumbers = spareNumbers;
                spareKeys = keys;
                spareNumbers = numbers;
                keys = mergedKeys;
                numbers = mergedNumbers;
            }
        }

        private void merge(int from, int middle, int end) {
            int left = from;
            int right = middle;
            for (int to = from; to < end; to++) {
                int source;
                if (left < middle && (right >= end || keys[left] <= keys[right])) {
                    source = left;
                    left++;
                } else {
                    source = right;
                    right++;
                }
                spareKeys[to] = keys[source];
                spareNumbers[to] = numbers[source];
            }
        }
    }

    /** An OP has the BODIES that are lent to all; those of its KIND stand in its class. */
    private abstract static class Op {
        final int place;
        // The innermost ROUND that was open when it came; null: none.
        final Round around;

        Op(int place, Round around) {
            this.place = place;
            this.around = around;
        }

        abstract int ownKind();

        /** DONE, FULL or the number of a FINDING. */
        abstract int perform(SpinBench bench);

        boolean isOfKind(int wanted) {
            return wanted == OP || wanted == ownKind();
        }

        int cost(SpinBench bench) {
            bench.leaveBody(10);
            return 1;
        }

        int mark(SpinBench bench) {
            bench.leaveBody(20);
            return place;
        }
    }

    private abstract static class Lead extends Op {
        Lead(int place, Round around) {
            super(place, around);
        }

        boolean isOfKind(int wanted) {
            return wanted == LEAD || super.isOfKind(wanted);
        }

        int cost(SpinBench bench) {
            bench.leaveBody(11);
            return super.cost(bench) + 1;
        }

        int mark(SpinBench bench) {
            bench.leaveBody(21);
            int lent = super.mark(bench);
            return lent + cost(bench);
        }
    }

    private static class Pulse extends Lead {
        final int spinSet;
        final int phase;
        final int quarters;

        Pulse(int place, Round around, int spinSet, int phase, int quarters) {
            super(place, around);
            this.spinSet = spinSet;
            this.phase = phase;
            this.quarters = quarters;
        }

        int ownKind() {
            return PULSE;
        }

        boolean isOfKind(int wanted) {
            return wanted == PULSE || super.isOfKind(wanted);
        }

        int cost(SpinBench bench) {
            bench.leaveBody(12);
            return super.cost(bench) * Integer.bitCount(spinSet);
        }

        int perform(SpinBench bench) {
            return turnSpins(bench, phase);
        }

        final int turnSpins(SpinBench bench, int f) {
            int axis = (f & 1) == 0 ? 1 : 2;
            int q = f < 2 ? quarters : (4 - quarters) & 3;
            for (int spin = 0; spin < MOST_SPINS; spin++) {
                if (((spinSet >> spin) & 1) != 0 && !bench.turnByQuarters(axis << (2 * spin), q)) {
                    return FULL;
                }
            }
            return DONE;
        }
    }

    private static final class Cycled extends Pulse {
        private final int cycle;

        Cycled(int place, Round around, int spinSet, int phase, int quarters, int cycle) {
            super(place, around, spinSet, phase, quarters);
            this.cycle = cycle;
        }

        int ownKind() {
            return CYCLED;
        }

        int cost(SpinBench bench) {
            bench.leaveBody(13);
            int asPulse = super.cost(bench);
            return asPulse + mark(bench);
        }

        int mark(SpinBench bench) {
            bench.leaveBody(23);
            return cycle;
        }

        int perform(SpinBench bench) {
            Table table = bench.tableAt(cycle);
            if (table == null || table.missing) {
                return NULL_FOUND;
            }
            int t = around == null ? 0 : around.timesDone;
            if (!table.hasPlaces(t, 1)) {
                return PLACE_FOUND;
            }
            return turnSpins(bench, (phase + table.items[t]) & 3);
        }
    }

    private static final class Delay extends Lead {
        private final int about;
        private final int angle;
        private final int way;

        Delay(int place, Round around, int about, int angle, int way) {
            super(place, around);
            this.about = about;
            this.angle = angle;
            this.way = way;
        }

        int ownKind() {
            return DELAY;
        }

        int mark(SpinBench bench) {
            bench.leaveBody(22);
            return super.mark(bench) + angle;
        }

        int perform(SpinBench bench) {
            return bench.turnByLetter(about, angle, way) ? DONE : FULL;
        }
    }

    private static final class Round extends Op {
        private final int often;
        private int timesDone;

        Round(int place, Round around, int often) {
            super(place, around);
            this.often = often;
        }

        int ownKind() {
            return ROUND;
        }

        int cost(SpinBench bench) {
            bench.leaveBody(14);
            return often;
        }

        int perform(SpinBench bench) {
            timesDone = 0;
            return DONE;
        }
    }

    /** Its ROUND is the one around it. */
    private static final class End extends Op {
        End(int place, Round ended) {
            super(place, ended);
        }

        int ownKind() {
            return END;
        }

        int perform(SpinBench bench) {
            if (around != null) {
                around.timesDone++;
                if (around.timesDone < around.often) {
                    bench.next = around.place + 1;
                }
            }
            return DONE;
        }
    }

    private static final class Store extends Op {
        private final int shelf;
        private final int times;

        Store(int place, Round around, int shelf, int times) {
            super(place, around);
            this.shelf = shelf;
            this.times = times;
        }

        int ownKind() {
            return STORE;
        }

        int mark(SpinBench bench) {
            bench.leaveBody(24);
            return super.mark(bench) + shelf;
        }

        int perform(SpinBench bench) {
            Sum target = bench.sumAt(shelf);
            return target != null && bench.mixer.joinSums(target, bench.work, times) ? DONE : FULL;
        }
    }
}
