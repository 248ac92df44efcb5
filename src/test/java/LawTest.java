/** Promises 1 to 4: a new object, set, of, bracket. */
public final class LawTest {
    private static final Due due = new Due();

    public static void main(String[] args) {
        promise1New();
        promise2Set();
        promise3Of();
        promise4BracketByKind();
        promise4BracketWrong();
        due.end("LawTest");
    }

    private static void promise1New() {
        LevelLadders x = new LevelLadders();
        due.same("1: KIND", x.of(0), 0);
        due.same("1: CHARGE", x.of(1), 0);
        due.same("1: WEIGHT", x.of(2), 0);
        due.same("1: FIGURE", x.of(3), 1);
        for (int v = 0; v < 4; v++) {
            due.same("1: level(" + v + ")", x.level(v), 0);
            due.same("1: coordinate(" + v + ", 0)", x.coordinate(v, 0), 0);
            due.same("1: coordinate(" + v + ", 1)", x.coordinate(v, 1), -1);
            due.same("1: get(" + v + ", 0)", x.get(v, 0), Long.MIN_VALUE);
            due.same("1: lay(" + v + ", 0, 1)", x.lay(v, 0, 1), -11);
        }
        for (int what = 0; what < 4; what++) {
            due.same("1: count(" + what + ")", x.count(what), 0);
        }
        due.same("1: undo()", x.undo(), -3);
        due.same("1: paper(0)", x.paper(0), -1);
    }

    private static void promise2Set() {
        LevelLadders x = new LevelLadders();
        int[] tops = {4, 100, 100, 100};
        int[] were = {0, 0, 0, 1};
        for (int what = 0; what < 4; what++) {
            due.same("2: top", x.set(what, tops[what]), were[what]);
            due.same("2: above", x.set(what, tops[what] + 1), -2);
            due.same("2: below", x.set(what, -1), -2);
            due.same("2: far", x.set(what, Integer.MIN_VALUE), -2);
            due.same("2: kept", x.of(what), tops[what]);
            due.same("2: middle", x.set(what, 3), tops[what]);
            due.same("2: nought", x.set(what, 0), 3);
        }
        due.same("2: set(4, 0)", x.set(4, 0), -1);
        due.same("2: set(-1, 0)", x.set(-1, 0), -1);
        due.same("2: set(4, 999): NONE ahead of BAD", x.set(4, 999), -1);
        due.same("2: set(-1, -9): NONE ahead of BAD", x.set(-1, -9), -1);
        due.same("2: others stay", x.of(3), 0);
    }

    private static void promise3Of() {
        LevelLadders x = Due.withLaw(2, 31, 47, 59);
        due.same("3: of(0)", x.of(0), 2);
        due.same("3: of(1)", x.of(1), 31);
        due.same("3: of(2)", x.of(2), 47);
        due.same("3: of(3)", x.of(3), 59);
        due.same("3: of(4)", x.of(4), -1);
        due.same("3: of(-1)", x.of(-1), -1);
        due.same("3: of(max)", x.of(Integer.MAX_VALUE), -1);
        due.same("3: of(min)", x.of(Integer.MIN_VALUE), -1);
    }

    private static void promise4BracketByKind() {
        int[] laws = {0, 1, 26, 100};
        for (int c : laws) {
            for (int f : laws) {
                LevelLadders x = Due.withLaw(0, c, 5, f);
                for (int m = -5; m <= 5; m++) {
                    int charged = Due.mod((long) c * (m * m * m - m) * 59);
                    bracketOfKind(x, 0, m, 1, 0);
                    bracketOfKind(x, 1, m, 1, charged);
                    bracketOfKind(x, 2, m, -1, Due.mod(f * m + charged));
                    bracketOfKind(x, 3, m, 0, Due.mod(f * m));
                    bracketOfKind(x, 4, m, 0, Due.mod(2 * f * m));
                }
            }
        }
        LevelLadders x = Due.withLaw(1, 12, 0, 1);
        due.same("4: twelve by twelve is one", x.bracket(2, 0, 1), 6);
        due.same("4: of a number below 0", x.bracket(-5, 5, 0), 91);
    }

    private static void bracketOfKind(LevelLadders x, int kind, int m, int slope, int centre) {
        x.set(0, kind);
        for (int n = -5; n <= 5; n += m == 2 ? 1 : 5) {
            String call = "4: KIND " + kind + " bracket(" + m + ", " + n;
            due.same(call + ", 0)", x.bracket(m, n, 0), Due.mod(slope * (m - n)));
            due.same(call + ", 1)", x.bracket(m, n, 1), centre);
        }
    }

    private static void promise4BracketWrong() {
        LevelLadders x = new LevelLadders();
        int[] wrong = {-6, 6, Integer.MIN_VALUE, Integer.MAX_VALUE};
        for (int w : wrong) {
            for (int what = 0; what < 2; what++) {
                due.same("4: m " + w, x.bracket(w, 0, what), -2);
                due.same("4: n " + w + ", what " + what, x.bracket(0, w, what), -2);
                due.same("4: both " + w, x.bracket(w, w, what), -2);
            }
            due.same("4: what ahead of m", x.bracket(w, 0, 2), -1);
            due.same("4: what ahead of n", x.bracket(0, w, -1), -1);
        }
        due.same("4: what 2", x.bracket(1, 1, 2), -1);
        due.same("4: what -1", x.bracket(1, 1, -1), -1);
    }
}
