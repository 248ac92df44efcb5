/** Promises 28 to 34: judge, list, lay, get, image, undo, count. */
public final class ListsTest {
    private static final Due due = new Due();
    private static final int[] FAR = {-1, 4, Integer.MIN_VALUE, Integer.MAX_VALUE};

    public static void main(String[] args) {
        promise28Judge();
        promise28JudgeWrong();
        promise29List();
        promise30Lay();
        promise31Get();
        promise32Image();
        promise32ImageHoldsNoMore();
        promise33Undo();
        promise34Count();
        due.end("ListsTest");
    }

    private static void promise28Judge() {
        LevelLadders x = new LevelLadders();
        x.become(1, 5, 3);
        x.put(1, 6, 77);
        x.list(2, 12);
        due.same("28: place 3", x.judge(2, 1), 3);
        x.lay(2, 3, 1);
        due.same("28: place 6", x.judge(2, 1), 6);
        x.lay(2, 6, 77);
        due.same("28: none", x.judge(2, 1), -5);
        for (int i = 11; i >= 0; i--) {
            long was = x.get(2, i);
            x.lay(2, i, was + 101);
            due.same("28: as they are, place " + i, x.judge(2, 1), i);
            x.lay(2, i, was + (1L << 32));
            due.same("28: longs, place " + i, x.judge(2, 1), i);
            x.lay(2, i, -1);
            due.same("28: below 0, place " + i, x.judge(2, 1), i);
        }
        x.list(2, 3);
        due.same("28: it ends ahead", x.judge(2, 1), -5);
        x.lay(2, 2, 1);
        due.same("28: the last place", x.judge(2, 1), 2);
        x.list(2, 0);
        due.same("28: no places", x.judge(2, 1), -5);
        x.list(0, 2);
        due.same("28: LEVEL 0, 0", x.judge(0, 0), -5);
        x.become(0, 0, 0);
        due.same("28: LEVEL 0", x.judge(0, 0), 0);
        x.lay(0, 0, 1);
        due.same("28: LEVEL 0, as told", x.judge(0, 0), -5);
        x.lay(0, 1, 1);
        due.same("28: 0 where there is none", x.judge(0, 0), 1);
    }

    private static void promise28JudgeWrong() {
        LevelLadders x = new LevelLadders();
        x.list(1, 1);
        for (int w : FAR) {
            due.same("28: list " + w, x.judge(w, 0), -1);
            due.same("28: vector " + w, x.judge(1, w), -1);
            due.same("28: NONE ahead of NOTHING", x.judge(0, w), -1);
        }
        due.same("28: NOTHING", x.judge(0, 0), -11);
        due.same("28: NOTHING in 2", x.judge(2, 0), -11);
        due.same("28: held", x.judge(1, 0), -5);
        x = new LevelLadders();
        for (int i = 0; i < 4; i++) {
            x.become(i, 1, 0);
            x.put(i, 0, 10 + i);
            x.list(i, 1);
            x.lay(i, 0, 10 + i);
        }
        for (int list = 0; list < 4; list++) {
            for (int vector = 0; vector < 4; vector++) {
                due.same("28: list " + list + ", vector " + vector, x.judge(list, vector), list == vector ? -5 : 0);
            }
        }
    }

    private static void promise29List() {
        LevelLadders x = new LevelLadders();
        for (int n = 0; n <= 12; n++) {
            due.same("29: list(3, " + n + ")", x.list(3, n), 1);
            for (int i = 0; i < n; i++) {
                due.same("29: place " + i, x.get(3, i), 0);
                x.lay(3, i, 5);
            }
            due.same("29: behind", x.get(3, n), Long.MIN_VALUE);
        }
        due.same("29: n 13", x.list(3, 13), -2);
        due.same("29: n max", x.list(3, Integer.MAX_VALUE), -2);
        due.same("29: n -1", x.list(3, -1), -14);
        due.same("29: n min", x.list(3, Integer.MIN_VALUE), -14);
        due.same("29: stays", x.get(3, 11), 5);
        for (int list : FAR) {
            due.same("29: list " + list, x.list(list, 1), -1);
            due.same("29: NONE ahead of BAD", x.list(list, 13), -1);
            due.same("29: NONE ahead of BELOW", x.list(list, -1), -1);
        }
        due.same("29: 0 again", x.list(3, 12), 1);
        due.same("29: 0 again, first", x.get(3, 0), 0);
        due.same("29: 0 again, last", x.get(3, 11), 0);
        due.same("29: others hold nothing", x.lay(2, 0, 1), -11);
    }

    private static void promise30Lay() {
        LevelLadders x = new LevelLadders();
        for (int list = 0; list < 4; list++) {
            due.same("30: NOTHING", x.lay(list, 0, 1), -11);
            due.same("30: NOTHING ahead of BEYOND", x.lay(list, -1, 1), -11);
            x.list(list, 3);
            due.same("30: lay", x.lay(list, 2, list * 1_000_000_000_000L - 9), 1);
            due.same("30: lay, first", x.lay(list, 0, Long.MAX_VALUE), 1);
            due.same("30: behind", x.lay(list, 3, 1), -13);
            due.same("30: below", x.lay(list, -1, 1), -13);
            due.same("30: far", x.lay(list, Integer.MAX_VALUE, 1), -13);
            due.same("30: far below", x.lay(list, Integer.MIN_VALUE, 1), -13);
        }
        for (int list = 0; list < 4; list++) {
            due.same("30: laid", x.get(list, 2), list * 1_000_000_000_000L - 9);
            due.same("30: laid first", x.get(list, 0), Long.MAX_VALUE);
            due.same("30: between", x.get(list, 1), 0);
        }
        for (int list : FAR) {
            due.same("30: list " + list, x.lay(list, 0, 1), -1);
        }
        x.list(0, 0);
        due.same("30: no places", x.lay(0, 0, 1), -13);
    }

    private static void promise31Get() {
        LevelLadders x = new LevelLadders();
        for (int list = 0; list < 4; list++) {
            due.same("31: nothing there", x.get(list, 0), Long.MIN_VALUE);
        }
        x.list(1, 12);
        x.lay(1, 11, Long.MIN_VALUE + 1);
        x.lay(1, 10, -1);
        due.same("31: last", x.get(1, 11), Long.MIN_VALUE + 1);
        due.same("31: one ahead", x.get(1, 10), -1);
        due.same("31: first", x.get(1, 0), 0);
        due.same("31: behind", x.get(1, 12), Long.MIN_VALUE);
        due.same("31: below", x.get(1, -1), Long.MIN_VALUE);
        due.same("31: far", x.get(1, Integer.MAX_VALUE), Long.MIN_VALUE);
        x.list(1, 5);
        due.same("31: no longer", x.get(1, 5), Long.MIN_VALUE);
        for (int list : FAR) {
            due.same("31: list " + list, x.get(list, 0), Long.MIN_VALUE);
        }
    }

    private static LevelLadders filled() {
        LevelLadders x = Due.withLaw(2, 26, 7, 9);
        x.become(0, 5, 6);
        x.become(1, 3, 1);
        x.put(1, 2, 50);
        x.become(3, 0, 0);
        x.plan(0, -1);
        x.plan(1, 3);
        x.plan(2, 2);
        return x;
    }

    private static void change(LevelLadders x) {
        x.set(0, 4);
        x.set(1, 5);
        x.set(2, 6);
        x.set(3, 8);
        x.become(0, 1, 0);
        x.put(1, 0, 99);
        x.become(2, 5, 0);
        x.put(3, 0, 44);
        x.plan(-1, 0);
        x.plan(0, 5);
        for (int i = 0; i < 6; i++) {
            x.plan(1, 40 + i);
        }
    }

    private static void isAsFilled(LevelLadders x, String call) {
        due.same(call + ": KIND", x.of(0), 2);
        due.same(call + ": CHARGE", x.of(1), 26);
        due.same(call + ": WEIGHT", x.of(2), 7);
        due.same(call + ": FIGURE", x.of(3), 9);
        due.row(call + ": VECTOR 0", Due.coordinates(x, 0), 0, 0, 0, 0, 0, 0, 1);
        due.row(call + ": VECTOR 1", Due.coordinates(x, 1), 0, 1, 50);
        due.row(call + ": VECTOR 2", Due.coordinates(x, 2), 0);
        due.row(call + ": VECTOR 3", Due.coordinates(x, 3), 1);
        due.same(call + ": ROWS", x.count(3), 3);
        due.same(call + ": FORM", x.form(1, 0, 0), Due.mod(9 - 14));
        due.same(call + ": ZEROS", x.zeros(1, 0), 55);
        due.same(call + ": PLAN, LEVEL", x.behind(3, -1), 1);
        due.same(call + ": PLAN", x.behind(3, 0), 3);
    }

    private static void promise32Image() {
        LevelLadders x = filled();
        due.same("32: image()", x.image(), 2);
        isAsFilled(x, "32");
        change(x);
        due.same("32: FORM by the other LAW", x.form(1, 0, 0), 16);
        due.same("32: ZEROS by the other LAW", x.zeros(1, -1), 0);
        due.same("32: undo()", x.undo(), 2);
        isAsFilled(x, "32 undone");
        change(x);
        due.same("32: undo() once more", x.undo(), 2);
        isAsFilled(x, "32 undone twice");
        change(x);
        due.same("32: in place of the other", x.image(), 4);
        x.set(0, 1);
        x.become(0, 2, 0);
        x.plan(-1, 0);
        due.same("32: undo() to the latest", x.undo(), 4);
        due.same("32: the latest CHARGE", x.of(1), 5);
        due.same("32: the latest LEVEL", x.level(0), 1);
        due.same("32: the latest COORDINATE", x.coordinate(1, 0), 99);
        due.same("32: the latest PLAN", x.count(3), 7);
    }

    private static void promise32ImageHoldsNoMore() {
        LevelLadders x = filled();
        x.list(1, 2);
        x.lay(1, 0, 5);
        Due.feed(x, "[-1");
        x.write(1);
        x.image();
        x.lay(1, 0, 6);
        x.list(2, 1);
        Due.feed(x, "]");
        x.write(3);
        x.undo();
        due.same("32: LISTS stay", x.get(1, 0), 6);
        due.same("32: LISTS stay held", x.get(2, 0), 0);
        due.same("32: THE TAPE stays", x.count(1), 4);
        due.same("32: THE PAPER stays", x.count(2), 2);
        due.same("32: THE TAPE can be read", x.read(2), 1);
    }

    private static void promise33Undo() {
        LevelLadders x = filled();
        due.same("33: there is none", x.undo(), -3);
        isAsFilled(x, "33");
        change(x);
        due.same("33: still none", x.undo(), -3);
        due.same("33: stays", x.of(0), 4);
        x = new LevelLadders();
        x.image();
        x.set(0, 3);
        x.set(2, 3);
        x.become(1, 4, 4);
        x.plan(1, 1);
        due.same("33: undo()", x.undo(), 0);
        due.same("33: KIND", x.of(0), 0);
        due.same("33: WEIGHT", x.of(2), 0);
        due.same("33: LEVEL", x.level(1), 0);
        due.same("33: COORDINATES", x.count(0), 0);
        due.same("33: PLAN", x.count(3), 0);
        // What is told by the LAW is told by the one that is back.
        due.same("33: DETERMINANT", x.determinant(1), 0);
        x.set(2, 4);
        due.same("33: DETERMINANT then", x.determinant(1), 8);
        x.undo();
        due.same("33: DETERMINANT undone", x.determinant(1), 0);
    }

    private static void promise34Count() {
        LevelLadders x = new LevelLadders();
        x.become(0, 5, 0);
        for (int i = 1; i < 7; i++) {
            x.put(0, i, i);
            due.same("34: COORDINATES", x.count(0), i + 1);
        }
        x.become(1, 2, 1);
        x.become(3, 0, 0);
        due.same("34: of all VECTORS", x.count(0), 9);
        x.put(3, 0, 0);
        due.same("34: not 0", x.count(0), 8);
        x.become(0, 0, 0);
        due.same("34: those that are gone", x.count(0), 2);
        Due.feed(x, "[-1 -1]");
        due.same("34: bytes on THE TAPE", x.count(1), 7);
        x.write(1);
        due.same("34: bytes of THE PAPER", x.count(2), 7);
        x.plan(1, 1);
        x.plan(1, 1);
        due.same("34: ROWS", x.count(3), 2);
        x.read(2);
        due.same("34: THE TAPE behind read", x.count(1), 0);
        due.same("34: COORDINATES behind read", x.count(0), 3);
        int[] bad = {-1, 4, Integer.MIN_VALUE, Integer.MAX_VALUE};
        for (int what : bad) {
            due.same("34: count(" + what + ")", x.count(what), -2);
        }
    }
}
