/** Energy ladders of one algebra; ../shared/DOC.md tells what each call promises. */
public final class LevelLadders {
    public static final int NONE = -1, BAD = -2, STATE = -3, FULL = -4, NOT = -5;
    public static final long NO = Long.MIN_VALUE;

    private static final int NOTHING = -11, BEYOND = -13, BELOW = -14;
    private static final int MODULUS = 101;
    private static final int TOP = 5;
    private static final int VECTORS = 4;
    private static final int LISTS = 4, LIST_SIZE = 12;
    private static final int ROWS = 8;
    private static final int TAPE_SIZE = 60;
    // All seven COORDINATES of LEVEL 5 written with three figures each take 94 bytes.
    private static final int PAPER_SIZE = 94;
    private static final int KIND = 0, CHARGE = 1, WEIGHT = 2, FIGURE = 3, LAW_SIZE = 4;

    // The BASIS VECTORS of all LEVELS stand in one row, so that one number names each of them;
    // those of LEVEL n are START[n] .. START[n + 1] - 1.
    private static final int BASIS = 19, WIDEST = 7;
    private static final int[] START = {0, 1, 2, 4, 7, 12, 19};
    private static final int[] FIRST = {0, 1, 2, 1, 3, 2, 1, 4, 3, 2, 2, 1, 5, 4, 3, 3, 2, 2, 1};
    private static final int[] REST = {0, 0, 0, 1, 0, 1, 3, 0, 1, 2, 3, 6, 0, 1, 2, 3, 5, 6, 11};
    private static final int[] LENGTH = {0, 1, 1, 2, 1, 2, 3, 1, 2, 2, 3, 4, 1, 2, 2, 3, 3, 4, 5};

    private final State now = new State();
    private final State kept = new State();
    private boolean hasImage;
    private final Ladder ladder = new Ladder();
    private final Sweep sweep = new Sweep();
    private final Text tape = new Text(TAPE_SIZE);
    private final Text page = new Text(PAPER_SIZE);
    private final Vector thought = new Vector();
    private final Vector sum = new Vector();
    private final long[][] lists = new long[LISTS][LIST_SIZE];
    private final int[] listSizes = {-1, -1, -1, -1};

    public LevelLadders() {
    }

    // ---- the law

    public int set(int what, int v) {
        if (!isWithin(what, LAW_SIZE - 1)) {
            return NONE;
        }
        if (!isWithin(v, what == KIND ? 4 : MODULUS - 1)) {
            return BAD;
        }
        int was = now.law[what];
        now.law[what] = v;
        return was;
    }

    public int of(int what) {
        return isWithin(what, LAW_SIZE - 1) ? now.law[what] : NONE;
    }

    public int bracket(int m, int n, int what) {
        if (!isWithin(what, 1)) {
            return NONE;
        }
        if (!isMode(m) || !isMode(n)) {
            return BAD;
        }
        Free kind = ladder.kindOf(now.law);
        return modulo(what == 0 ? kind.slope(m, n) : kind.centre(m, now.law[CHARGE], now.law[FIGURE]));
    }

    // ---- levels

    public int partition(int level, int i, int k) {
        if (!isBasis(level, i)) {
            return NONE;
        }
        int basis = START[level] + i;
        if (k == -1) {
            return LENGTH[basis];
        }
        return isWithin(k, LENGTH[basis] - 1) ? part(basis, k) : NOT;
    }

    public int act(int m, int level, int i, int j) {
        if (!isMode(m) || !isBasis(level, i)) {
            return NONE;
        }
        int to = level - m;
        if (!isLevel(to)) {
            return STATE;
        }
        if (!isBasis(to, j)) {
            return NOT;
        }
        ladder.build(now.law, Math.max(level, to));
        return ladder.made(START[level] + i, START[to] + j);
    }

    public int form(int level, int i, int j) {
        if (!isBasis(level, i) || !isBasis(level, j)) {
            return NONE;
        }
        ladder.build(now.law, level);
        return ladder.formed(START[level] + i, START[level] + j);
    }

    public int determinant(int level) {
        if (!isLevel(level)) {
            return NONE;
        }
        ladder.build(now.law, level);
        return ladder.reducedForms(level).product;
    }

    public int rank(int level) {
        if (!isLevel(level)) {
            return NONE;
        }
        ladder.build(now.law, level);
        return ladder.reducedForms(level).found;
    }

    public int zeros(int level, int i) {
        return were(level, 0, i);
    }

    public int vanishing(int level, int i) {
        if (!isLevel(level)) {
            return NONE;
        }
        ladder.build(now.law, level);
        Grid grid = ladder.reducedLowerings(level);
        int free = grid.columns - grid.found;
        if (i == -1) {
            return free;
        }
        if (free != 1 || !isBasis(level, i)) {
            return NOT;
        }
        return grid.nullNumber(i);
    }

    public int were(int level, int v, int i) {
        if (!isLevel(level)) {
            return NONE;
        }
        if (i < -1) {
            return NOT;
        }
        sweep.learn(ladder, now.law, level);
        return i == -1 ? sweep.howMany(level, v) : sweep.weight(level, v, i);
    }

    // ---- vectors

    public int feed(int letter) {
        if (letter < 1 || letter > 127) {
            return BAD;
        }
        return tape.append(letter) ? tape.size : FULL;
    }

    public int read(int vector) {
        if (!isVector(vector)) {
            return NONE;
        }
        ladder.build(now.law, TOP);
        int fault = tape.fault();
        int answer = fault < 0 ? sumOfTerms() : -100 - fault;
        if (answer >= 0) {
            now.vectors[vector].copyFrom(sum);
        }
        tape.clear();
        return answer;
    }

    public int become(int vector, int level, int i) {
        if (!isVector(vector) || !isBasis(level, i)) {
            return NONE;
        }
        now.vectors[vector].becomeBasis(level, i);
        return 1;
    }

    public int level(int vector) {
        return isVector(vector) ? now.vectors[vector].height : NONE;
    }

    public int coordinate(int vector, int i) {
        return hasNumber(vector, i) ? now.vectors[vector].numbers[i] : NONE;
    }

    public int put(int vector, int i, int v) {
        if (!hasNumber(vector, i)) {
            return NONE;
        }
        if (!isWithin(v, MODULUS - 1)) {
            return BAD;
        }
        int[] numbers = now.vectors[vector].numbers;
        int was = numbers[i];
        numbers[i] = v;
        return was;
    }

    public int raise(int vector, int m) {
        if (!isVector(vector) || !isMode(m)) {
            return NONE;
        }
        Vector its = now.vectors[vector];
        int to = its.height - m;
        if (!isLevel(to)) {
            return STATE;
        }
        ladder.build(now.law, Math.max(its.height, to));
        ladder.move(its, m);
        return its.height;
    }

    public int add(int one, int other, int often) {
        if (!isVector(one) || !isVector(other)) {
            return NONE;
        }
        if (!isWithin(often, MODULUS - 1)) {
            return BAD;
        }
        Vector its = now.vectors[one];
        if (its.height != now.vectors[other].height) {
            return STATE;
        }
        its.addTimes(now.vectors[other], often);
        return its.height;
    }

    public int product(int one, int other) {
        if (!isVector(one) || !isVector(other)) {
            return NONE;
        }
        Vector its = now.vectors[one];
        if (its.height != now.vectors[other].height) {
            return 0;
        }
        ladder.build(now.law, its.height);
        return ladder.productOf(its, now.vectors[other]);
    }

    public int isLowest(int vector) {
        if (!isVector(vector)) {
            return NONE;
        }
        Vector its = now.vectors[vector];
        ladder.build(now.law, its.height);
        for (int m = 1; m <= its.height; m++) {
            thought.copyFrom(its);
            ladder.move(thought, m);
            if (!thought.isZero()) {
                return 0;
            }
        }
        return 1;
    }

    // ---- draws, plans, written

    public long odds(int n, int seed, int m, int part) {
        if (n < 1 || n > 9 || m < 1 || m > 30 || !isWithin(part, 1)) {
            return NO;
        }
        ladder.build(now.law, TOP);
        int ended = 0;
        for (int s = 0; s < m; s++) {
            if (endsAsZero(n, seed + s)) {
                ended++;
            }
        }
        int shared = commonDivisor(ended, m);
        return part == 0 ? ended / shared : m / shared;
    }

    public int plan(int what, int v) {
        if (what == -1) {
            now.rows = 0;
            return 0;
        }
        if (!isWithin(what, 2)) {
            return NONE;
        }
        if (!isRowNumber(what, v)) {
            return BAD;
        }
        if (now.rows >= ROWS) {
            return FULL;
        }
        now.rowWhats[now.rows] = what;
        now.rowNumbers[now.rows] = v;
        now.rows++;
        return now.rows;
    }

    public int behind(int vector, int i) {
        if (!isVector(vector)) {
            return NONE;
        }
        ladder.build(now.law, TOP);
        thought.copyFrom(now.vectors[vector]);
        for (int r = 0; r < now.rows; r++) {
            doRow(now.rowWhats[r], now.rowNumbers[r]);
        }
        if (i == -1) {
            return thought.height;
        }
        return isBasis(thought.height, i) ? thought.numbers[i] : NOT;
    }

    public int write(int vector) {
        if (!isVector(vector)) {
            return NONE;
        }
        page.clear();
        page.appendTerms(now.vectors[vector]);
        return page.size;
    }

    public int paper(int i) {
        return isWithin(i, page.size - 1) ? page.bytes[i] : NONE;
    }

    // ---- lists, the image

    public int judge(int list, int vector) {
        if (!isWithin(list, LISTS - 1) || !isVector(vector)) {
            return NONE;
        }
        if (listSizes[list] < 0) {
            return NOTHING;
        }
        int[] numbers = now.vectors[vector].numbers;
        for (int i = 0; i < listSizes[list]; i++) {
            if (lists[list][i] != (i < numbers.length ? numbers[i] : 0)) {
                return i;
            }
        }
        return NOT;
    }

    public int list(int list, int n) {
        if (!isWithin(list, LISTS - 1)) {
            return NONE;
        }
        if (n > LIST_SIZE) {
            return BAD;
        }
        if (n < 0) {
            return BELOW;
        }
        for (int i = 0; i < n; i++) {
            lists[list][i] = 0;
        }
        listSizes[list] = n;
        return 1;
    }

    public int lay(int list, int i, long v) {
        if (!isWithin(list, LISTS - 1)) {
            return NONE;
        }
        if (listSizes[list] < 0) {
            return NOTHING;
        }
        if (!isWithin(i, listSizes[list] - 1)) {
            return BEYOND;
        }
        lists[list][i] = v;
        return 1;
    }

    public long get(int list, int i) {
        if (!isWithin(list, LISTS - 1) || !isWithin(i, listSizes[list] - 1)) {
            return NO;
        }
        return lists[list][i];
    }

    public int image() {
        kept.copyFrom(now);
        hasImage = true;
        return now.law[KIND];
    }

    public int undo() {
        if (!hasImage) {
            return STATE;
        }
        now.copyFrom(kept);
        return now.law[KIND];
    }

    public int count(int what) {
        switch (what) {
            case 0:
                return now.filledNumbers();
            case 1:
                return tape.size;
            case 2:
                return page.size;
            case 3:
                return now.rows;
            default:
                return BAD;
        }
    }

    private static boolean isWithin(int x, int most) {
        return x >= 0 && x <= most;
    }

    private static boolean isMode(int m) {
        return m >= -TOP && m <= TOP;
    }

    private static boolean isLevel(int level) {
        return isWithin(level, TOP);
    }

    private static boolean isBasis(int level, int i) {
        return isLevel(level) && isWithin(i, START[level + 1] - START[level] - 1);
    }

    private static boolean isVector(int vector) {
        return isWithin(vector, VECTORS - 1);
    }

    private boolean hasNumber(int vector, int i) {
        return isVector(vector) && isBasis(now.vectors[vector].height, i);
    }

    private static boolean isRowNumber(int what, int v) {
        switch (what) {
            case 0:
                return isMode(v);
            case 1:
                return isWithin(v, MODULUS - 1);
            default:
                return isVector(v);
        }
    }

    private static int part(int basis, int k) {
        int left = basis;
        for (int step = 0; step < k; step++) {
            left = REST[left];
        }
        return FIRST[left];
    }

    private static int modulo(int x) {
        return Math.floorMod(x, MODULUS);
    }

    private static int inverse(int x) {
        for (int y = 1; y < MODULUS; y++) {
            if (x * y % MODULUS == 1) {
                return y;
            }
        }
        return 0;
    }

    private static int commonDivisor(int a, int b) {
        for (int d = b; d > 1; d--) {
            if (a % d == 0 && b % d == 0) {
                return d;
            }
        }
        return 1;
    }

    /** Leaves in sum what THE TAPE, which has no FAULT, tells: its LEVEL, or STATE. */
    private int sumOfTerms() {
        int level = STATE;
        tape.rewind();
        for (int t = 0; t < TAPE_SIZE && tape.nextTerm(); t++) {
            int its = tape.termLevel();
            if (its < 0 || t > 0 && its != level) {
                return STATE;
            }
            if (t == 0) {
                sum.becomeZero(its);
            }
            level = its;
            addTerm();
        }
        return level;
    }

    private void addTerm() {
        thought.becomeBasis(0, 0);
        for (int i = tape.modeCount - 1; i >= 0; i--) {
            int mode = tape.modes[i];
            if (!isLevel(thought.height - mode)) {
                return;
            }
            ladder.move(thought, mode);
        }
        sum.addTimes(thought, tape.number);
    }

    private boolean endsAsZero(int n, int seed) {
        int z = seed;
        thought.becomeBasis(0, 0);
        for (int i = 0; i < n; i++) {
            z = z * 1103515245 + 12345;
            int mode = (z >>> 16) % 5 - 2;
            int to = thought.height - mode;
            if (to < 0) {
                return true;
            }
            if (to <= TOP) {
                ladder.move(thought, mode);
            }
        }
        return thought.isZero();
    }

    private void doRow(int what, int v) {
        if (what == 0) {
            int to = thought.height - v;
            if (to < 0) {
                thought.becomeZero(0);
            } else if (to <= TOP) {
                ladder.move(thought, v);
            }
        } else if (what == 1) {
            thought.multiply(v);
        } else if (now.vectors[v].height == thought.height) {
            thought.addTimes(now.vectors[v], 1);
        }
    }

    // What the kinds answer is not yet taken MODULO: who asks them does that.
    private static class Free {
        int slope(int m, int n) {
            return m - n;
        }

        int centre(int m, int charge, int figure) {
            return 0;
        }
    }

    private static class Charged extends Free {
        int centre(int m, int charge, int figure) {
            return charge * (m * m * m - m) * 59;
        }
    }

    private static final class Turned extends Charged {
        int slope(int m, int n) {
            return -super.slope(m, n);
        }

        int centre(int m, int charge, int figure) {
            return figure * m + super.centre(m, charge, figure);
        }
    }

    private static class Strings extends Free {
        int slope(int m, int n) {
            return 0;
        }

        int centre(int m, int charge, int figure) {
            return figure * m;
        }
    }

    private static final class Twice extends Strings {
        int centre(int m, int charge, int figure) {
            return 2 * super.centre(m, charge, figure);
        }
    }

    private static final class Vector {
        int height;
        // Behind the LEVEL's own COORDINATES these stay 0, so that whole rows can be worked on.
        final int[] numbers = new int[WIDEST];

        void copyFrom(Vector other) {
            height = other.height;
            System.arraycopy(other.numbers, 0, numbers, 0, WIDEST);
        }

        void becomeZero(int level) {
            height = level;
            for (int i = 0; i < WIDEST; i++) {
                numbers[i] = 0;
            }
        }

        void becomeBasis(int level, int i) {
            becomeZero(level);
            numbers[i] = 1;
        }

        void addTimes(Vector other, int often) {
            for (int i = 0; i < WIDEST; i++) {
                numbers[i] = (numbers[i] + often * other.numbers[i]) % MODULUS;
            }
        }

        void multiply(int often) {
            for (int i = 0; i < WIDEST; i++) {
                numbers[i] = numbers[i] * often % MODULUS;
            }
        }

        int filled() {
            int many = 0;
            for (int i = 0; i < WIDEST; i++) {
                if (numbers[i] != 0) {
                    many++;
                }
            }
            return many;
        }

        boolean isZero() {
            return filled() == 0;
        }
    }

    /** What THE IMAGE holds. */
    private static final class State {
        final int[] law = {0, 0, 0, 1};
        final Vector[] vectors = {new Vector(), new Vector(), new Vector(), new Vector()};
        final int[] rowWhats = new int[ROWS];
        final int[] rowNumbers = new int[ROWS];
        int rows;

        void copyFrom(State other) {
            System.arraycopy(other.law, 0, law, 0, LAW_SIZE);
            for (int i = 0; i < VECTORS; i++) {
                vectors[i].copyFrom(other.vectors[i]);
            }
            System.arraycopy(other.rowWhats, 0, rowWhats, 0, ROWS);
            System.arraycopy(other.rowNumbers, 0, rowNumbers, 0, ROWS);
            rows = other.rows;
        }

        int filledNumbers() {
            int many = 0;
            for (int i = 0; i < VECTORS; i++) {
                many += vectors[i].filled();
            }
            return many;
        }
    }

    /** What the modes make of the BASIS VECTORS, and the FORMS: tables kept until the LAW is another. */
    private static final class Ladder {
        private final Free[] kinds = {new Free(), new Charged(), new Turned(), new Strings(), new Twice()};
        private final int[] built = new int[LAW_SIZE];
        private int top = -1;
        // Place a * BASIS + b: the COORDINATE b of what the mode between their LEVELS makes of a.
        private final int[] acts = new int[BASIS * BASIS];
        private final int[] forms = new int[BASIS * BASIS];
        private final int[] moved = new int[WIDEST];
        private final Grid grid = new Grid();

        Free kindOf(int[] law) {
            return kinds[law[KIND]];
        }

        int made(int from, int to) {
            return acts[from * BASIS + to];
        }

        int formed(int one, int other) {
            return forms[one * BASIS + other];
        }

        /** Makes the tables for the LEVELS 0 .. upTo: those of low LEVELS alone cost far less. */
        void build(int[] law, int upTo) {
            if (upTo <= top && isBuilt(law)) {
                return;
            }
            System.arraycopy(law, 0, built, 0, LAW_SIZE);
            top = upTo;
            // What a mode makes hangs on vectors of LEVELS below alone, so rising LEVELS are enough.
            for (int n = 0; n <= upTo; n++) {
                for (int from = START[n]; from < START[n + 1]; from++) {
                    for (int t = 0; t <= upTo; t++) {
                        fillActs(from, n, t);
                    }
                }
                fillForms(n);
            }
        }

        private boolean isBuilt(int[] law) {
            for (int i = 0; i < LAW_SIZE; i++) {
                if (built[i] != law[i]) {
                    return false;
                }
            }
            return true;
        }

        private void fillActs(int from, int n, int t) {
            int m = n - t;
            int row = from * BASIS;
            for (int to = START[t]; to < START[t + 1]; to++) {
                acts[row + to] = 0;
            }
            if (from == 0) {
                // The first PARTITION of a LEVEL is that of one number.
                acts[START[t]] = t == 0 ? built[WEIGHT] : 1;
                return;
            }
            int k = FIRST[from];
            if (-m >= k) {
                acts[row + joined(-m, from, t)] = 1;
                return;
            }
            int rest = REST[from];
            Free kind = kindOf(built);
            int slope = kind.slope(m, -k);
            for (int to = START[t]; to < START[t + 1]; to++) {
                acts[row + to] = modulo(exchanged(rest, t - k, to) + slope * made(rest, to));
            }
            if (m == k) {
                int centre = kind.centre(m, built[CHARGE], built[FIGURE]);
                acts[row + rest] = modulo(acts[row + rest] + centre);
            }
        }

        /** The BASIS VECTOR of LEVEL t that is k, then the numbers of rest. */
        private static int joined(int k, int rest, int t) {
            int found = START[t];
            for (int basis = START[t]; basis < START[t + 1]; basis++) {
                if (FIRST[basis] == k && REST[basis] == rest) {
                    found = basis;
                }
            }
            return found;
        }

        /** COORDINATE to of what two modes make of rest, by way of a LEVEL (nothing, if that is below 0). */
        private int exchanged(int rest, int way, int to) {
            int all = 0;
            if (way >= 0) {
                for (int by = START[way]; by < START[way + 1]; by++) {
                    all += made(rest, by) * made(by, to);
                }
            }
            return all;
        }

        private void fillForms(int n) {
            if (n == 0) {
                forms[0] = 1;
                return;
            }
            for (int one = START[n]; one < START[n + 1]; one++) {
                int below = n - FIRST[one];
                for (int other = START[n]; other < START[n + 1]; other++) {
                    int all = 0;
                    for (int by = START[below]; by < START[below + 1]; by++) {
                        all += made(other, by) * formed(REST[one], by);
                    }
                    forms[one * BASIS + other] = all % MODULUS;
                }
            }
        }

        /** Does L(m) to a vector that stays within the LEVELS of the tables. */
        void move(Vector vector, int m) {
            int from = vector.height;
            int to = from - m;
            for (int j = START[to]; j < START[to + 1]; j++) {
                int all = 0;
                for (int i = START[from]; i < START[from + 1]; i++) {
                    all += vector.numbers[i - START[from]] * made(i, j);
                }
                moved[j - START[to]] = all % MODULUS;
            }
            vector.becomeZero(to);
            System.arraycopy(moved, 0, vector.numbers, 0, START[to + 1] - START[to]);
        }

        int productOf(Vector one, Vector other) {
            int start = START[one.height];
            int end = START[one.height + 1];
            int all = 0;
            for (int i = start; i < end; i++) {
                for (int j = start; j < end; j++) {
                    all += one.numbers[i - start] * other.numbers[j - start] % MODULUS * formed(i, j);
                }
            }
            return all % MODULUS;
        }

        Grid reducedForms(int level) {
            int start = START[level];
            int size = START[level + 1] - start;
            grid.resize(size, size);
            for (int i = 0; i < size; i++) {
                for (int j = 0; j < size; j++) {
                    grid.store(i, j, formed(start + i, start + j));
                }
            }
            grid.reduce();
            return grid;
        }

        /** All that L(1) .. L(5) make of a LEVEL: a row for each BASIS VECTOR of the LEVELS below. */
        Grid reducedLowerings(int level) {
            int start = START[level];
            int size = START[level + 1] - start;
            grid.resize(start, size);
            for (int i = 0; i < start; i++) {
                for (int j = 0; j < size; j++) {
                    grid.store(i, j, made(start + j, i));
                }
            }
            grid.reduce();
            return grid;
        }
    }

    /** Rows of numbers, reduced until each pivot is 1 and alone in its column. */
    private static final class Grid {
        private static final int DEEPEST = 12;
        private final int[] cells = new int[DEEPEST * WIDEST];
        private final int[] pivotRows = new int[WIDEST];
        private int rows;
        private int columns;
        private int found;
        private int product;

        void resize(int newRows, int newColumns) {
            rows = newRows;
            columns = newColumns;
        }

        void store(int row, int column, int v) {
            cells[row * WIDEST + column] = v;
        }

        /** Leaves in found the rank, in product the determinant (of as many rows as columns). */
        void reduce() {
            found = 0;
            product = 1;
            for (int c = 0; c < columns; c++) {
                int row = pivotRow(c);
                if (row < 0) {
                    pivotRows[c] = -1;
                    product = 0;
                    continue;
                }
                if (row != found) {
                    exchange(row, found);
                    product = modulo(-product);
                }
                int pivot = cells[found * WIDEST + c];
                product = product * pivot % MODULUS;
                multiplyRow(found, inverse(pivot));
                clearColumn(c, found);
                pivotRows[c] = found;
                found++;
            }
        }

        private int pivotRow(int c) {
            for (int r = found; r < rows; r++) {
                if (cells[r * WIDEST + c] != 0) {
                    return r;
                }
            }
            return -1;
        }

        private void exchange(int one, int other) {
            for (int c = 0; c < columns; c++) {
                int v = cells[one * WIDEST + c];
                cells[one * WIDEST + c] = cells[other * WIDEST + c];
                cells[other * WIDEST + c] = v;
            }
        }

        private void multiplyRow(int row, int by) {
            for (int c = 0; c < columns; c++) {
                cells[row * WIDEST + c] = cells[row * WIDEST + c] * by % MODULUS;
            }
        }

        private void clearColumn(int column, int pivotRow) {
            for (int r = 0; r < rows; r++) {
                int times = MODULUS - cells[r * WIDEST + column];
                if (r == pivotRow || times == MODULUS) {
                    continue;
                }
                for (int c = 0; c < columns; c++) {
                    int v = cells[r * WIDEST + c] + times * cells[pivotRow * WIDEST + c];
                    cells[r * WIDEST + c] = v % MODULUS;
                }
            }
        }

        /** The i-th number of the one vector of which the rows make 0, the first that is not 0 being 1. */
        int nullNumber(int i) {
            int free = freeColumn();
            for (int c = 0; c < columns; c++) {
                int v = rawNullNumber(c, free);
                if (v != 0) {
                    return rawNullNumber(i, free) * inverse(v) % MODULUS;
                }
            }
            return 0;
        }

        private int freeColumn() {
            for (int c = 0; c < columns; c++) {
                if (pivotRows[c] < 0) {
                    return c;
                }
            }
            return 0;
        }

        private int rawNullNumber(int c, int free) {
            return pivotRows[c] < 0 ? 1 : modulo(-cells[pivotRows[c] * WIDEST + free]);
        }
    }

    /** The DETERMINANT of a LEVEL by each WEIGHT, kept until the LAW is another. */
    private static final class Sweep {
        // The FORM of two BASIS VECTORS holds h no more often than either has numbers, so a DETERMINANT
        // is a polynomial in h of no higher degree than all PARTITIONS of its LEVEL have numbers.
        private static final int[] DEGREE = {0, 1, 3, 6, 12, 20};
        private final int[] values = new int[(TOP + 1) * MODULUS];
        private final boolean[] known = new boolean[TOP + 1];
        private final int[] trial = new int[LAW_SIZE];
        private final int[] edge = new int[21];

        void learn(Ladder ladder, int[] law, int level) {
            if (trial[KIND] != law[KIND] || trial[CHARGE] != law[CHARGE] || trial[FIGURE] != law[FIGURE]) {
                for (int n = 0; n <= TOP; n++) {
                    known[n] = false;
                }
            }
            if (known[level]) {
                return;
            }
            known[level] = true;
            System.arraycopy(law, 0, trial, 0, LAW_SIZE);
            int degree = DEGREE[level];
            for (int h = 0; h <= degree; h++) {
                trial[WEIGHT] = h;
                ladder.build(trial, level);
                edge[h] = ladder.reducedForms(level).product;
                values[level * MODULUS + h] = edge[h];
            }
            extend(level, degree);
        }

        /** So many values tell a polynomial: their differences tell the values that follow. */
        private void extend(int level, int degree) {
            for (int end = degree - 1; end >= 0; end--) {
                for (int i = 0; i <= end; i++) {
                    edge[i] = modulo(edge[i + 1] - edge[i]);
                }
            }
            for (int h = degree + 1; h < MODULUS; h++) {
                for (int i = 1; i <= degree; i++) {
                    edge[i] = (edge[i] + edge[i - 1]) % MODULUS;
                }
                values[level * MODULUS + h] = edge[degree];
            }
        }

        int howMany(int level, int v) {
            int many = 0;
            for (int h = 0; h < MODULUS; h++) {
                if (values[level * MODULUS + h] == v) {
                    many++;
                }
            }
            return many;
        }

        int weight(int level, int v, int i) {
            int left = i;
            for (int h = 0; h < MODULUS; h++) {
                if (values[level * MODULUS + h] == v) {
                    if (left == 0) {
                        return h;
                    }
                    left--;
                }
            }
            return NOT;
        }
    }

    /** A row of bytes that tells TERMS: THE TAPE, which is read, and THE PAPER, which is written. */
    private static final class Text {
        private static final int TERM = 0, FIGURE_ONE = 1, FIGURE_TWO = 2, OPEN = 3;
        private static final int MINUS = 4, MODE = 5, BLANK = 6, CLOSED = 7;
        private final byte[] bytes;
        private int size;
        private int place;
        private int number;
        private final int[] modes = new int[TAPE_SIZE / 2];
        private int modeCount;

        Text(int most) {
            bytes = new byte[most];
        }

        void clear() {
            size = 0;
        }

        boolean append(int b) {
            if (size >= bytes.length) {
                return false;
            }
            bytes[size] = (byte) b;
            size++;
            return true;
        }

        /** The FAULT, or -1. */
        int fault() {
            int state = TERM;
            for (int i = 0; i < size; i++) {
                state = next(state, bytes[i]);
                if (state < 0) {
                    return i;
                }
            }
            return state == CLOSED ? -1 : size;
        }

        private static int next(int state, int b) {
            switch (state) {
                case TERM:
                    return b == '[' ? OPEN : isFigure(b, '1', '9') ? FIGURE_ONE : -1;
                case FIGURE_ONE:
                    return b == '[' ? OPEN : isFigure(b, '0', '9') ? FIGURE_TWO : -1;
                case FIGURE_TWO:
                    return b == '[' ? OPEN : -1;
                case OPEN:
                    return b == ']' ? CLOSED : modeBegun(b);
                case BLANK:
                    return modeBegun(b);
                case MINUS:
                    return isFigure(b, '1', '5') ? MODE : -1;
                case MODE:
                    return b == ' ' ? BLANK : b == ']' ? CLOSED : -1;
                default:
                    return b == '+' ? TERM : -1;
            }
        }

        private static int modeBegun(int b) {
            return b == '-' ? MINUS : isFigure(b, '0', '5') ? MODE : -1;
        }

        private static boolean isFigure(int b, int least, int most) {
            return b >= least && b <= most;
        }

        void rewind() {
            place = 0;
        }

        /** Takes the number and the modes of the next TERM of a text without FAULT: whether there is one. */
        boolean nextTerm() {
            number = 0;
            modeCount = 0;
            boolean inside = false;
            int sign = 1;
            for (; place < size && bytes[place] != ']'; place++) {
                int b = bytes[place];
                if (b == '[') {
                    inside = true;
                } else if (b == '-') {
                    sign = -1;
                } else if (isFigure(b, '0', '9')) {
                    if (inside) {
                        addMode(sign * (b - '0'));
                    } else {
                        number = number * 10 + b - '0';
                    }
                    sign = 1;
                }
            }
            place++;
            if (number == 0) {
                number = 1;
            }
            return inside;
        }

        private void addMode(int mode) {
            if (modeCount < modes.length) {
                modes[modeCount] = mode;
                modeCount++;
            }
        }

        /** The LEVEL of the TERM taken last, -1 if that is below 0 or goes too HIGH. */
        int termLevel() {
            int together = 0;
            for (int i = modeCount - 1; i >= 0; i--) {
                together += modes[i];
                if (together < -TOP) {
                    return -1;
                }
            }
            return together > 0 ? -1 : -together;
        }

        void appendTerms(Vector vector) {
            int start = START[vector.height];
            for (int basis = start; basis < START[vector.height + 1]; basis++) {
                if (vector.numbers[basis - start] != 0) {
                    appendTerm(vector.numbers[basis - start], basis);
                }
            }
        }

        private void appendTerm(int times, int basis) {
            if (size > 0) {
                append('+');
            }
            if (times > 1) {
                appendNumber(times);
            }
            append('[');
            for (int k = 0; k < LENGTH[basis]; k++) {
                if (k > 0) {
                    append(' ');
                }
                append('-');
                append('0' + part(basis, k));
            }
            append(']');
        }

        private void appendNumber(int v) {
            if (v >= 100) {
                append('0' + v / 100);
            }
            if (v >= 10) {
                append('0' + v / 10 % 10);
            }
            append('0' + v % 10);
        }
    }
}
