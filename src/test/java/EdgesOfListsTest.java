/** Boundary cases of promises 28 to 34, a test for each sentence that names one. */
public final class EdgesOfListsTest {
    private static final Due due = new Due();
    private static final int[] NO_VECTOR = Due.beside(0, 3);
    private static final int[] NO_LIST = Due.beside(0, 3);

    public static void main(String[] args) {
        promise28HoldsNothing();
        promise28RowOfNought();
        promise28RowOfTwelve();
        promise28EndsAhead();
        promise28NumbersAsTheyAre();
        promise28FirstAndLastPlace();
        promise28OrderOfAnswers();
        promise29Sizes();
        promise29AllNought();
        promise29OrderOfAnswers();
        promise30Places();
        promise30LongsAsTheyAre();
        promise30OrderOfAnswers();
        promise31Places();
        promise32NoImage();
        promise32Again();
        promise32OfEachThing();
        promise32OfEachRow();
        promise32OfEachCoordinate();
        promise34Counts();
        promise34OfAllVectors();
        promise34Whats();
        due.end("EdgesOfListsTest");
    }

    private static void promise28HoldsNothing() {
        LevelLadders x = new LevelLadders();
        for (int list = 0; list <= 3; list++) {
            for (int vector = 0; vector <= 3; vector++) {
                due.same("28: NOTHING", x.judge(list, vector), -11);
            }
            x.list(list, 13);
            x.list(list, -1);
            due.same("28: still NOTHING", x.judge(list, 0), -11);
            x.list(list, 0);
            due.same("28: no longer", x.judge(list, 0), -5);
        }
    }

    private static void promise28RowOfNought() {
        LevelLadders x = new LevelLadders();
        x.list(0, 0);
        for (int level = 0; level <= 5; level++) {
            x.become(0, level, 0);
            due.same("28: a row of 0 is not otherwise", x.judge(0, 0), -5);
        }
    }

    private static void promise28RowOfTwelve() {
        LevelLadders x = new LevelLadders();
        x.list(3, 12);
        for (int level = 0; level <= 5; level++) {
            int last = Due.sizeOf(level) - 1;
            x.become(3, level, last);
            due.same("28: last of " + level, x.judge(3, 3), last);
            x.lay(3, last, 1);
            due.same("28: as told", x.judge(3, 3), -5);
            x.lay(3, last + 1, 1);
            due.same("28: 0 where there is none", x.judge(3, 3), last + 1);
            x.lay(3, last + 1, 0);
            x.lay(3, 11, -1);
            due.same("28: the twelfth", x.judge(3, 3), 11);
            x.lay(3, 11, 0);
            x.lay(3, last, 0);
        }
    }

    private static void promise28EndsAhead() {
        LevelLadders x = new LevelLadders();
        x.become(1, 5, 6);
        for (int n = 0; n <= 7; n++) {
            x.list(2, n);
            due.same("28: " + n + " of seven", x.judge(2, 1), n == 7 ? 6 : -5);
        }
        x.become(1, 5, 0);
        for (int n = 0; n <= 7; n++) {
            x.list(2, n);
            due.same("28: first of " + n, x.judge(2, 1), n == 0 ? -5 : 0);
        }
    }

    private static void promise28NumbersAsTheyAre() {
        LevelLadders x = new LevelLadders();
        x.list(0, 1);
        x.put(0, 0, 100);
        long[] unlike = {0, -1, 99, 101, 201, 100 + (1L << 32), Long.MIN_VALUE, Long.MAX_VALUE};
        for (long v : unlike) {
            x.lay(0, 0, v);
            due.same("28: 100 is not " + v, x.judge(0, 0), 0);
        }
        x.lay(0, 0, 100);
        due.same("28: 100", x.judge(0, 0), -5);
        x.put(0, 0, 0);
        for (long v : new long[] {-101, 101, 1L << 32, Long.MIN_VALUE}) {
            x.lay(0, 0, v);
            due.same("28: 0 is not " + v, x.judge(0, 0), 0);
        }
        // Where the VECTOR has none there is 0 as it is, too.
        x.list(0, 2);
        for (long v : new long[] {-101, 101, 1L << 32, Long.MIN_VALUE}) {
            x.lay(0, 1, v);
            due.same("28: none is not " + v, x.judge(0, 0), 1);
        }
    }

    private static void promise28FirstAndLastPlace() {
        LevelLadders x = new LevelLadders();
        x.become(2, 5, 0);
        x.list(1, 7);
        for (int i = 0; i < 7; i++) {
            x.put(2, i, i + 1);
            x.lay(1, i, i + 1);
        }
        due.same("28: none", x.judge(1, 2), -5);
        for (int i = 6; i >= 0; i--) {
            x.lay(1, i, 0);
            due.same("28: the first of several, " + i, x.judge(1, 2), i);
        }
    }

    private static void promise28OrderOfAnswers() {
        LevelLadders x = new LevelLadders();
        x.list(1, 1);
        due.each("28: list", NO_LIST, -1, list -> x.judge(list, 0));
        due.each("28: vector", NO_VECTOR, -1, vector -> x.judge(1, vector));
        due.each("28: vector ahead of NOTHING", NO_VECTOR, -1, vector -> x.judge(0, vector));
        due.each("28: both", NO_VECTOR, -1, both -> x.judge(both, both));
    }

    private static void promise29Sizes() {
        for (int list = 0; list <= 3; list++) {
            LevelLadders x = new LevelLadders();
            int its = list;
            due.same("29: none", x.list(its, 0), 1);
            due.same("29: no place", x.lay(its, 0, 1), -13);
            due.same("29: one", x.list(its, 1), 1);
            due.same("29: the one place", x.lay(its, 0, 1), 1);
            due.same("29: no second", x.lay(its, 1, 1), -13);
            due.same("29: twelve", x.list(its, 12), 1);
            due.same("29: the twelfth", x.lay(its, 11, 1), 1);
            due.same("29: no thirteenth", x.lay(its, 12, 1), -13);
            due.each("29: too many", new int[] {13, 14, Integer.MAX_VALUE}, -2, n -> x.list(its, n));
            due.each("29: below 0", new int[] {-1, -2, Integer.MIN_VALUE}, -14, n -> x.list(its, n));
            due.same("29: stays", x.get(its, 11), 1);
        }
    }

    private static void promise29AllNought() {
        LevelLadders x = new LevelLadders();
        x.list(2, 12);
        for (int i = 0; i < 12; i++) {
            x.lay(2, i, Long.MAX_VALUE);
        }
        x.list(2, 5);
        x.list(2, 12);
        for (int i = 0; i < 12; i++) {
            due.same("29: 0 at " + i, x.get(2, i), 0);
        }
    }

    private static void promise29OrderOfAnswers() {
        LevelLadders x = new LevelLadders();
        for (int n : new int[] {Integer.MIN_VALUE, -1, 0, 12, 13, Integer.MAX_VALUE}) {
            due.each("29: list by " + n, NO_LIST, -1, list -> x.list(list, n));
        }
    }

    private static void promise30Places() {
        LevelLadders x = new LevelLadders();
        for (int n = 1; n <= 12; n++) {
            x.list(3, n);
            due.same("30: first of " + n, x.lay(3, 0, 8), 1);
            due.same("30: last of " + n, x.lay(3, n - 1, 9), 1);
            due.each("30: i of " + n, Due.beside(0, n - 1), -13, i -> x.lay(3, i, 7));
            due.same("30: last stays", x.get(3, n - 1), 9);
        }
    }

    private static void promise30LongsAsTheyAre() {
        LevelLadders x = new LevelLadders();
        x.list(0, 2);
        long[] longs = {Long.MIN_VALUE, Long.MIN_VALUE + 1, -101, -1, 0, 101, 1L << 32, Long.MAX_VALUE};
        for (long v : longs) {
            due.same("30: lay " + v, x.lay(0, 1, v), 1);
            due.same("31: get " + v, x.get(0, 1), v);
        }
        due.same("30: the other stays", x.get(0, 0), 0);
    }

    private static void promise30OrderOfAnswers() {
        LevelLadders x = new LevelLadders();
        due.each("30: list", NO_LIST, -1, list -> x.lay(list, 0, 1));
        due.each("30: list ahead of i", NO_LIST, -1, list -> x.lay(list, -1, 1));
        due.each("30: NOTHING ahead of BEYOND", Due.beside(0, 11), -11, i -> x.lay(1, i, 1));
        due.same("30: NOTHING", x.lay(1, 0, 1), -11);
        x.list(1, 0);
        due.each("30: BEYOND", Due.beside(0, -1), -13, i -> x.lay(1, i, 1));
    }

    private static void promise31Places() {
        LevelLadders x = new LevelLadders();
        due.same("31: nothing there", x.get(0, 0), Long.MIN_VALUE);
        due.each("31: list", NO_LIST, Long.MIN_VALUE, list -> x.get(list, 0));
        for (int n = 0; n <= 12; n++) {
            x.list(0, n);
            due.each("31: i of " + n, Due.beside(0, n - 1), Long.MIN_VALUE, i -> x.get(0, i));
            if (n > 0) {
                due.same("31: last of " + n, x.get(0, n - 1), 0);
            }
        }
    }

    private static void promise32NoImage() {
        LevelLadders x = new LevelLadders();
        due.same("33: there is none", x.undo(), -3);
        due.same("33: there is none still", x.undo(), -3);
        x.set(0, 4);
        due.same("33: KIND stays", x.undo() + x.of(0), 1);
        due.same("32: KIND", x.image(), 4);
        due.same("33: there is one", x.undo(), 4);
    }

    private static void promise32Again() {
        LevelLadders x = new LevelLadders();
        for (int kind = 0; kind <= 4; kind++) {
            x.set(0, kind);
            due.same("32: KIND " + kind, x.image(), kind);
            x.set(0, 4 - kind);
            due.same("33: back to KIND " + kind, x.undo(), kind);
            due.same("33: so it is", x.of(0), kind);
            x.set(0, 0);
            due.same("33: once more", x.undo(), kind);
        }
    }

    /** THE IMAGE of the least and of the greatest that the LAW, VECTORS and the PLAN can be. */
    private static void promise32OfEachThing() {
        LevelLadders x = new LevelLadders();
        x.image();
        fill(x);
        x.undo();
        for (int what = 0; what <= 3; what++) {
            due.same("33: of(" + what + ")", x.of(what), what == 3 ? 1 : 0);
            due.same("33: level(" + what + ")", x.level(what), 0);
        }
        due.same("33: COORDINATES", x.count(0), 0);
        due.same("33: ROWS", x.count(3), 0);
        due.same("33: BEHIND", x.behind(2, -1), 0);
        fill(x);
        x.image();
        x.plan(-1, 0);
        for (int what = 0; what <= 3; what++) {
            x.set(what, 0);
            x.become(what, 0, 0);
        }
        due.same("33: KIND 4", x.undo(), 4);
        due.same("33: FIGURE 100", x.of(3), 100);
        due.same("33: COORDINATES of all", x.count(0), 28);
        due.same("33: the last", x.coordinate(3, 6), 100);
        due.same("33: eight ROWS", x.count(3), 8);
        due.same("33: BEHIND eight", x.behind(2, 6), Due.mod(-1 - 8));
    }

    /** Each ROW is kept, the eighth too, though others come into its place, and though there are fewer then. */
    private static void promise32OfEachRow() {
        for (int rows = 0; rows <= 8; rows++) {
            LevelLadders x = new LevelLadders();
            x.put(0, 0, 1);
            x.put(1, 0, 5);
            int want = 1;
            for (int row = 0; row < rows; row++) {
                x.plan(row % 3 == 2 ? 2 : 1, row % 3 == 2 ? 1 : row + 2);
                want = Due.mod(row % 3 == 2 ? want + 5 : want * (row + 2));
            }
            x.image();
            for (int others = 0; others <= 8; others += 4) {
                x.plan(-1, 0);
                for (int row = 0; row < others; row++) {
                    x.plan(row % 3 == 2 ? 1 : 0, 0);
                }
                x.undo();
                due.same("33: " + rows + " ROWS in place of " + others, x.count(3), rows);
                due.same("33: BEHIND " + rows + " ROWS in place of " + others, x.behind(0, 0), want);
            }
        }
    }

    private static void promise32OfEachCoordinate() {
        LevelLadders x = new LevelLadders();
        for (int vector = 0; vector <= 3; vector++) {
            x.become(vector, 5 - vector % 2, 0);
            for (int i = 0; i < Due.sizeOf(5 - vector % 2); i++) {
                x.put(vector, i, 20 * vector + i + 1);
            }
        }
        x.image();
        for (int vector = 0; vector <= 3; vector++) {
            x.become(vector, 4 + vector % 2, 0);
            for (int i = 0; i < Due.sizeOf(4 + vector % 2); i++) {
                x.put(vector, i, 100 - i);
            }
        }
        x.undo();
        for (int vector = 0; vector <= 3; vector++) {
            due.same("33: LEVEL of " + vector, x.level(vector), 5 - vector % 2);
            for (int i = 0; i < Due.sizeOf(5 - vector % 2); i++) {
                due.same("33: COORDINATE " + i + " of " + vector, x.coordinate(vector, i), 20 * vector + i + 1);
            }
        }
    }

    private static void fill(LevelLadders x) {
        x.set(0, 4);
        for (int what = 1; what <= 3; what++) {
            x.set(what, 100);
        }
        for (int vector = 0; vector <= 3; vector++) {
            x.become(vector, 5, 0);
            for (int i = 0; i < 7; i++) {
                x.put(vector, i, 100);
            }
        }
        for (int row = 0; row < 8; row++) {
            x.plan(2, row % 4);
        }
    }

    private static void promise34Counts() {
        LevelLadders x = new LevelLadders();
        for (int what = 0; what <= 3; what++) {
            due.same("34: none of " + what, x.count(what), 0);
        }
        fill(x);
        x.write(0);
        for (int i = 0; i < 61; i++) {
            x.feed(1);
        }
        x.plan(1, 1);
        int[] most = {28, 60, 94, 8};
        for (int what = 0; what <= 3; what++) {
            due.same("34: most of " + what, x.count(what), most[what]);
        }
        x.read(0);
        x.plan(-1, 0);
        x.become(1, 0, 0);
        x.put(1, 0, 0);
        x.write(1);
        int[] behind = {21, 0, 0, 0};
        for (int what = 0; what <= 3; what++) {
            due.same("34: then of " + what, x.count(what), behind[what]);
        }
    }

    private static void promise34OfAllVectors() {
        LevelLadders x = new LevelLadders();
        for (int vector = 0; vector <= 3; vector++) {
            x.put(vector, 0, 1);
            due.same("34: VECTOR " + vector, x.count(0), vector + 1);
        }
        x.put(0, 0, 100);
        due.same("34: 100 is not 0", x.count(0), 4);
        x.add(0, 1, 1);
        due.same("34: 101 is 0", x.count(0), 3);
    }

    private static void promise34Whats() {
        LevelLadders x = new LevelLadders();
        fill(x);
        due.each("34: what", Due.beside(0, 3), -2, x::count);
    }
}
