/** Boundary cases of promises 1 to 4, a test for each sentence that names one. */
public final class EdgesOfLawTest {
    private static final Due due = new Due();

    public static void main(String[] args) {
        promise1LawAtFirst();
        promise1VectorsAtFirst();
        promise1NothingElseAtFirst();
        promise2KindIsNoughtToFour();
        promise2OthersAreNoughtToHundred();
        promise2TellsWhatItWas();
        promises2And3Whats();
        promise4ModesAreFiveEitherWay();
        promise4ModesWhateverWhatIs();
        promise4SecondModeDoesNotMatterToCentre();
        promise4WhatsAreTwo();
        promise4BelowNoughtIsTakenModulo();
        promise4CentreBelowNoughtIsTakenModulo();
        promise4CentreOfNoughtAndOne();
        due.end("EdgesOfLawTest");
    }

    private static void promise1LawAtFirst() {
        LevelLadders x = new LevelLadders();
        int[] law = {0, 0, 0, 1};
        for (int what = 0; what <= 3; what++) {
            due.same("1: of(" + what + ") at first", x.of(what), law[what]);
        }
        due.same("1: FREE at first", x.bracket(2, -2, 0), 4);
        due.same("1: without CENTRE at first", x.bracket(2, -2, 1), 0);
        x.set(0, 1);
        due.same("1: no CHARGE", x.bracket(2, -2, 1), 0);
        x.set(0, 3);
        due.same("1: FIGURE 1", x.bracket(2, -2, 1), 2);
    }

    private static void promise1VectorsAtFirst() {
        LevelLadders x = new LevelLadders();
        for (int vector = 0; vector <= 3; vector++) {
            due.same("1: LEVEL of " + vector, x.level(vector), 0);
            due.same("1: COORDINATE of " + vector, x.coordinate(vector, 0), 0);
            due.same("1: no other of " + vector, x.coordinate(vector, 1), -1);
            due.same("1: is 0, so lowest", x.isLowest(vector), 1);
        }
        due.same("1: none that is not 0", x.count(0), 0);
    }

    private static void promise1NothingElseAtFirst() {
        LevelLadders x = new LevelLadders();
        due.same("1: no byte on THE TAPE", x.count(1), 0);
        due.same("1: THE PAPER holds nothing", x.count(2), 0);
        due.same("1: byte 0 of it", x.paper(0), -1);
        due.same("1: no ROWS", x.count(3), 0);
        for (int list = 0; list <= 3; list++) {
            due.same("1: LISTS hold nothing", x.judge(list, 0), -11);
        }
        due.same("1: no IMAGE", x.undo(), -3);
        due.same("1: THE TAPE tells no VECTOR", x.read(0), -100);
    }

    private static void promise2KindIsNoughtToFour() {
        for (int kind = 0; kind <= 4; kind++) {
            LevelLadders x = new LevelLadders();
            due.same("2: set(0, " + kind + ")", x.set(0, kind), 0);
            due.same("2: KIND " + kind, x.of(0), kind);
            due.each("2: set(0, ..)", Due.beside(0, 4), -2, v -> x.set(0, v));
            due.same("2: KIND stays " + kind, x.of(0), kind);
        }
    }

    private static void promise2OthersAreNoughtToHundred() {
        for (int what = 1; what <= 3; what++) {
            int its = what;
            for (int v : new int[] {0, 5, 100}) {
                LevelLadders x = new LevelLadders();
                due.same("2: set(" + its + ", " + v + ")", x.set(its, v), its == 3 ? 1 : 0);
                due.same("2: of(" + its + ")", x.of(its), v);
                due.each("2: set(" + its + ", ..)", Due.beside(0, 100), -2, w -> x.set(its, w));
                due.same("2: stays", x.of(its), v);
            }
        }
    }

    private static void promise2TellsWhatItWas() {
        LevelLadders x = new LevelLadders();
        int[] most = {4, 100, 100, 100};
        for (int what = 0; what <= 3; what++) {
            x.set(what, most[what]);
            due.same("2: most again by " + what, x.set(what, most[what]), most[what]);
            due.same("2: least by " + what, x.set(what, 0), most[what]);
            due.same("2: least again by " + what, x.set(what, 0), 0);
        }
    }

    private static void promises2And3Whats() {
        LevelLadders x = Due.withLaw(4, 100, 99, 98);
        due.each("3: of(..)", Due.beside(0, 3), -1, x::of);
        due.each("2: set(.., 0)", Due.beside(0, 3), -1, what -> x.set(what, 0));
        due.each("2: set(.., 101), NONE first", Due.beside(0, 3), -1, what -> x.set(what, 101));
        due.each("2: set(.., -1), NONE first", Due.beside(0, 3), -1, what -> x.set(what, -1));
        due.same("3: of(0)", x.of(0), 4);
        due.same("3: of(3)", x.of(3), 98);
    }

    private static void promise4ModesAreFiveEitherWay() {
        LevelLadders x = new LevelLadders();
        for (int m = -5; m <= 5; m++) {
            for (int n = -5; n <= 5; n++) {
                String modes = "4: bracket(" + m + ", " + n + ", ";
                due.same(modes + "0)", x.bracket(m, n, 0), Due.mod(m - n));
                due.same(modes + "1)", x.bracket(m, n, 1), 0);
            }
        }
        for (int what = 0; what <= 1; what++) {
            int its = what;
            due.each("4: bracket(.., 0, " + its + ")", Due.beside(-5, 5), -2, m -> x.bracket(m, 0, its));
            due.each("4: bracket(0, .., " + its + ")", Due.beside(-5, 5), -2, n -> x.bracket(0, n, its));
            due.each("4: bracket(5, .., " + its + ")", Due.beside(-5, 5), -2, n -> x.bracket(5, n, its));
        }
    }

    private static void promise4ModesWhateverWhatIs() {
        for (int kind = 0; kind <= 4; kind++) {
            LevelLadders x = Due.withLaw(kind, 3, 4, 5);
            due.same("4: CENTRE with n 6 by KIND " + kind, x.bracket(1, 6, 1), -2);
            due.same("4: CENTRE with n -6 by KIND " + kind, x.bracket(1, -6, 1), -2);
            due.same("4: SLOPE with n 6 by KIND " + kind, x.bracket(1, 6, 0), -2);
            due.same("4: SLOPE with m -6 by KIND " + kind, x.bracket(-6, 1, 0), -2);
        }
    }

    private static void promise4SecondModeDoesNotMatterToCentre() {
        LevelLadders x = Due.withLaw(3, 0, 0, 7);
        for (int n = -5; n <= 5; n++) {
            due.same("4: CENTRE of 5 beside " + n, x.bracket(5, n, 1), 35);
            due.same("4: CENTRE of 0 beside " + n, x.bracket(0, n, 1), 0);
        }
    }

    private static void promise4WhatsAreTwo() {
        LevelLadders x = new LevelLadders();
        due.each("4: bracket(1, 1, ..)", Due.beside(0, 1), -1, what -> x.bracket(1, 1, what));
        due.each("4: bracket(6, 1, ..), NONE first", Due.beside(0, 1), -1, what -> x.bracket(6, 1, what));
        due.each("4: bracket(1, -6, ..), NONE first", Due.beside(0, 1), -1, what -> x.bracket(1, -6, what));
    }

    private static void promise4BelowNoughtIsTakenModulo() {
        LevelLadders x = new LevelLadders();
        due.same("4: -10", x.bracket(-5, 5, 0), 91);
        due.same("4: -1", x.bracket(0, 1, 0), 100);
        due.same("4: 0", x.bracket(-5, -5, 0), 0);
        due.same("4: 10", x.bracket(5, -5, 0), 10);
        x.set(0, 2);
        due.same("4: 0 less 10", x.bracket(5, -5, 0), 91);
        due.same("4: 0 less -10", x.bracket(-5, 5, 0), 10);
        due.same("4: 0 less 1", x.bracket(1, 0, 0), 100);
        due.same("4: 0 less 0", x.bracket(5, 5, 0), 0);
        x.set(0, 3);
        due.same("4: STRINGS have no SLOPE", x.bracket(5, -5, 0), 0);
        x.set(0, 4);
        due.same("4: TWICE has none", x.bracket(-5, 5, 0), 0);
    }

    private static void centres(LevelLadders x, int ofFive, int ofOne, int ofLessOne, int ofLessFive) {
        String kind = "4: KIND " + x.of(0) + ", CENTRE of ";
        due.same(kind + "5", x.bracket(5, -5, 1), ofFive);
        due.same(kind + "1", x.bracket(1, -1, 1), ofOne);
        due.same(kind + "-1", x.bracket(-1, 1, 1), ofLessOne);
        due.same(kind + "-5", x.bracket(-5, 5, 1), ofLessFive);
    }

    /** By a CHARGE and a FIGURE of 100, each as if it were -1. */
    private static void promise4CentreBelowNoughtIsTakenModulo() {
        LevelLadders x = Due.withLaw(0, 100, 100, 100);
        centres(x, 0, 0, 0, 0);
        x.set(0, 1);
        centres(x, 91, 0, 0, 10);
        x.set(0, 2);
        centres(x, 86, 100, 1, 15);
        x.set(0, 3);
        centres(x, 96, 100, 1, 5);
        x.set(0, 4);
        centres(x, 91, 99, 2, 10);
        x.set(3, 0);
        centres(x, 0, 0, 0, 0);
    }

    private static void promise4CentreOfNoughtAndOne() {
        LevelLadders x = Due.withLaw(1, 77, 0, 1);
        for (int m = -1; m <= 1; m++) {
            due.same("4: CHARGED has no CENTRE of " + m, x.bracket(m, -m, 1), 0);
        }
        due.same("4: of 2 it has, a half each", x.bracket(2, -2, 1), 77 * 51 % 101);
        due.same("4: of -2, too", x.bracket(-2, 2, 1), 101 - 77 * 51 % 101);
    }
}
