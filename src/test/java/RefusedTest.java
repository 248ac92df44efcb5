/**
 * Calls that are refused, promise by promise: which answer comes first where several would be due, and that
 * nothing has changed behind any of them, by a new object, one with something in each place and a full one.
 */
public final class RefusedTest {
    private static final Due due = new Due();
    private static final int[] NO_WHAT = Due.beside(0, 3);
    private static final int[] NO_VECTOR = Due.beside(0, 3);
    private static final int[] NO_LIST = Due.beside(0, 3);
    private static final int[] NO_LEVEL = Due.beside(0, 5);
    private static final int[] NO_MODE = Due.beside(-5, 5);
    private static final int[] NO_NUMBER = Due.beside(0, 100);
    private static final int[] ANY = {Integer.MIN_VALUE, -6, -2, -1, 0, 1, 5, 101, Integer.MAX_VALUE};

    public static void main(String[] args) {
        promise2Set();
        promise3Of();
        promise4Bracket();
        promise5Partition();
        promise6Act();
        promise6ActStateAheadOfNot();
        promise7Form();
        promises8And9();
        promises10To12();
        promise13Feed();
        promise14Read();
        promise14ReadBehindFaultAndState();
        promise15Become();
        promises16And17();
        promise18Put();
        promise19Raise();
        promise20Add();
        promise21Product();
        promise22IsLowest();
        promise23Odds();
        promise24Plan();
        promise25Behind();
        promises26And27();
        promise28Judge();
        promise29List();
        promise30Lay();
        promise31Get();
        promise33Undo();
        promise34Count();
        due.end("RefusedTest");
    }

    private static void stays(String call, long want, Twins.Call c) {
        Twins.stays(due, call, want, c);
    }

    private static void promise2Set() {
        for (int what : NO_WHAT) {
            for (int v : ANY) {
                stays("2: set(" + what + ", " + v + "), NONE first", -1, x -> x.set(what, v));
            }
        }
        for (int v : Due.beside(0, 4)) {
            stays("2: set(0, " + v + ")", -2, x -> x.set(0, v));
        }
        for (int what = 1; what <= 3; what++) {
            int its = what;
            for (int v : NO_NUMBER) {
                stays("2: set(" + its + ", " + v + ")", -2, x -> x.set(its, v));
            }
        }
    }

    private static void promise3Of() {
        for (int what : NO_WHAT) {
            stays("3: of(" + what + ")", -1, x -> x.of(what));
        }
    }

    private static void promise4Bracket() {
        for (int what : Due.beside(0, 1)) {
            for (int m : ANY) {
                stays("4: bracket(" + m + ", 6, " + what + "), NONE first", -1, x -> x.bracket(m, 6, what));
            }
        }
        for (int what = 0; what <= 1; what++) {
            int its = what;
            for (int m : NO_MODE) {
                stays("4: bracket(" + m + ", 0, " + its + ")", -2, x -> x.bracket(m, 0, its));
                stays("4: bracket(0, " + m + ", " + its + ")", -2, x -> x.bracket(0, m, its));
            }
        }
    }

    private static void promise5Partition() {
        for (int k : ANY) {
            for (int level : NO_LEVEL) {
                stays("5: partition(" + level + ", 0, " + k + "), level first", -1, x -> x.partition(level, 0, k));
            }
            for (int i : Due.beside(0, 6)) {
                stays("5: partition(5, " + i + ", " + k + "), i first", -1, x -> x.partition(5, i, k));
            }
        }
        for (int k : Due.beside(-1, 2)) {
            stays("5: partition(5, 4, " + k + ")", -5, x -> x.partition(5, 4, k));
        }
    }

    private static void promise6Act() {
        for (int j : ANY) {
            for (int m : NO_MODE) {
                stays("6: act(" + m + ", 5, 0, " + j + "), m first", -1, x -> x.act(m, 5, 0, j));
            }
            for (int level : NO_LEVEL) {
                stays("6: act(5, " + level + ", 0, " + j + "), level first", -1, x -> x.act(5, level, 0, j));
            }
            for (int i : Due.beside(0, 4)) {
                stays("6: act(5, 4, " + i + ", " + j + "), i ahead of STATE", -1, x -> x.act(5, 4, i, j));
                stays("6: act(2, 4, " + i + ", " + j + "), i ahead of NOT", -1, x -> x.act(2, 4, i, j));
            }
        }
    }

    private static void promise6ActStateAheadOfNot() {
        for (int j : ANY) {
            stays("6: act(4, 3, 0, " + j + "), below LEVEL 0", -3, x -> x.act(4, 3, 0, j));
            stays("6: act(-3, 3, 0, " + j + "), above LEVEL 5", -3, x -> x.act(-3, 3, 0, j));
        }
        for (int j : Due.beside(0, 2)) {
            stays("6: act(-1, 2, 0, " + j + ")", -5, x -> x.act(-1, 2, 0, j));
        }
    }

    private static void promise7Form() {
        for (int level : NO_LEVEL) {
            stays("7: form(" + level + ", 0, 0)", -1, x -> x.form(level, 0, 0));
        }
        for (int i : Due.beside(0, 2)) {
            stays("7: form(3, " + i + ", 0)", -1, x -> x.form(3, i, 0));
            stays("7: form(3, 0, " + i + ")", -1, x -> x.form(3, 0, i));
        }
    }

    private static void promises8And9() {
        for (int level : NO_LEVEL) {
            stays("8: determinant(" + level + ")", -1, x -> x.determinant(level));
            stays("9: rank(" + level + ")", -1, x -> x.rank(level));
        }
    }

    private static void promises10To12() {
        for (int level : NO_LEVEL) {
            for (int i : ANY) {
                String numbers = level + ", " + i + "), level first";
                stays("10: zeros(" + numbers, -1, x -> x.zeros(level, i));
                stays("11: vanishing(" + numbers, -1, x -> x.vanishing(level, i));
                stays("12: were by " + i + " (" + numbers, -1, x -> x.were(level, i, i));
            }
        }
        for (int i : Due.beside(-1, 100)) {
            stays("10: zeros(4, " + i + ")", -5, x -> x.zeros(4, i));
            stays("11: vanishing(4, " + i + ")", -5, x -> x.vanishing(4, i));
            stays("12: were(4, 3, " + i + ")", -5, x -> x.were(4, 3, i));
        }
        for (int v : NO_NUMBER) {
            stays("12: were(4, " + v + ", -1)", 0, x -> x.were(4, v, -1));
            stays("12: were(4, " + v + ", 0)", -5, x -> x.were(4, v, 0));
        }
    }

    private static void promise13Feed() {
        for (int letter : Due.beside(1, 127)) {
            stays("13: feed(" + letter + "), BAD first", -2, x -> x.feed(letter));
        }
        for (int letter : new int[] {1, 91, 127}) {
            Twins.stays(due, Twins.FULL, "13: feed(" + letter + ")", -4, x -> x.feed(letter));
        }
    }

    private static void promise14Read() {
        for (int vector : NO_VECTOR) {
            stays("14: read(" + vector + "), THE TAPE stays", -1, x -> x.read(vector));
        }
    }

    /** The one with something has 5[-1 0] on THE TAPE: each text goes on behind that. */
    private static void promise14ReadBehindFaultAndState() {
        String[] texts = {"x", "+", "+[", "+[-", "+[-0]", "+[-1 ]", "+0[]", "+123[]", "+[]", "+[1]", "+[-1]+[-2]",
            "+[5 -1 -5]", "+[-3 -3]", "+[5 -5 -5]", "+[-2 1]+[-2]"};
        int[] wants = {-107, -108, -109, -110, -110, -112, -108, -110, -3, -3, -3, -3, -3, -3, -3};
        for (int i = 0; i < texts.length; i++) {
            for (int vector = 0; vector <= 3; vector++) {
                int its = vector;
                String text = texts[i];
                String call = "14: read(" + its + ") of 5[-1 0]" + text;
                Twins.stays(due, Twins.SOME, call, wants[i], x -> Due.read(x, its, text), "FED", "TAPE");
            }
        }
        Twins.stays(due, Twins.NEW, "14: read(0) of no byte", -100, x -> x.read(0));
    }

    private static void promise15Become() {
        for (int other : ANY) {
            for (int vector : NO_VECTOR) {
                stays("15: become(" + vector + ", 1, " + other + ")", -1, x -> x.become(vector, 1, other));
            }
            for (int level : NO_LEVEL) {
                stays("15: become(1, " + level + ", " + other + ")", -1, x -> x.become(1, level, other));
            }
        }
        for (int i : Due.beside(0, 4)) {
            stays("15: become(1, 4, " + i + ")", -1, x -> x.become(1, 4, i));
        }
    }

    private static void promises16And17() {
        for (int vector : NO_VECTOR) {
            stays("16: level(" + vector + ")", -1, x -> x.level(vector));
            stays("17: coordinate(" + vector + ", 0)", -1, x -> x.coordinate(vector, 0));
        }
        for (int i : Due.beside(0, 0)) {
            stays("17: coordinate(0, " + i + ")", -1, x -> x.coordinate(0, i));
        }
    }

    private static void promise18Put() {
        for (int v : ANY) {
            for (int vector : NO_VECTOR) {
                stays("18: put(" + vector + ", 0, " + v + "), vector first", -1, x -> x.put(vector, 0, v));
            }
            for (int i : Due.beside(0, 0)) {
                stays("18: put(0, " + i + ", " + v + "), i first", -1, x -> x.put(0, i, v));
            }
        }
        for (int v : NO_NUMBER) {
            stays("18: put(0, 0, " + v + ")", -2, x -> x.put(0, 0, v));
            stays("18: put(3, 0, " + v + ")", -2, x -> x.put(3, 0, v));
        }
    }

    private static void promise19Raise() {
        for (int m : ANY) {
            for (int vector : NO_VECTOR) {
                stays("19: raise(" + vector + ", " + m + "), vector first", -1, x -> x.raise(vector, m));
            }
        }
        for (int m : NO_MODE) {
            stays("19: raise(2, " + m + ")", -1, x -> x.raise(2, m));
        }
        for (int room = Twins.SOME; room <= Twins.FULL; room++) {
            Twins.stays(due, room, "19: raise(2, -1), above LEVEL 5", -3, x -> x.raise(2, -1));
            Twins.stays(due, room, "19: raise(1, 3), below LEVEL 0", -3, x -> x.raise(1, 3));
            Twins.stays(due, room, "19: raise(3, 2) of 0, below LEVEL 0", -3, x -> x.raise(3, 2));
            Twins.stays(due, room, "19: raise(3, -5) of 0, above LEVEL 5", -3, x -> x.raise(3, -5));
        }
    }

    private static void promise20Add() {
        for (int often : ANY) {
            for (int vector : NO_VECTOR) {
                stays("20: add(" + vector + ", 0, " + often + "), one first", -1, x -> x.add(vector, 0, often));
                stays("20: add(0, " + vector + ", " + often + "), other first", -1, x -> x.add(0, vector, often));
            }
        }
        for (int often : NO_NUMBER) {
            stays("20: add(0, 0, " + often + ")", -2, x -> x.add(0, 0, often));
            stays("20: add(0, 2, " + often + "), ahead of STATE", -2, x -> x.add(0, 2, often));
        }
        for (int often : new int[] {0, 1, 100}) {
            Twins.stays(due, Twins.SOME, "20: add(1, 2, " + often + ")", -3, x -> x.add(1, 2, often));
            Twins.stays(due, Twins.SOME, "20: add(2, 3, " + often + "), the other is 0", -3, x -> x.add(2, 3, often));
        }
    }

    private static void promise21Product() {
        for (int vector : NO_VECTOR) {
            stays("21: product(" + vector + ", 0)", -1, x -> x.product(vector, 0));
            stays("21: product(0, " + vector + ")", -1, x -> x.product(0, vector));
        }
        Twins.stays(due, Twins.SOME, "21: product(0, 1)", 0, x -> x.product(0, 1));
    }

    private static void promise22IsLowest() {
        for (int vector : NO_VECTOR) {
            stays("22: isLowest(" + vector + ")", -1, x -> x.isLowest(vector));
        }
    }

    private static void promise23Odds() {
        for (int n : Due.beside(1, 9)) {
            stays("23: odds(" + n + ", 7, 30, 0)", Long.MIN_VALUE, x -> x.odds(n, 7, 30, 0));
        }
        for (int m : Due.beside(1, 30)) {
            stays("23: odds(9, 7, " + m + ", 1)", Long.MIN_VALUE, x -> x.odds(9, 7, m, 1));
        }
        for (int part : Due.beside(0, 1)) {
            stays("23: odds(9, 7, 30, " + part + ")", Long.MIN_VALUE, x -> x.odds(9, 7, 30, part));
        }
    }

    private static void promise24Plan() {
        for (int v : ANY) {
            for (int what : Due.beside(-1, 2)) {
                stays("24: plan(" + what + ", " + v + "), NONE first", -1, x -> x.plan(what, v));
            }
        }
        int[][] bad = {NO_MODE, NO_NUMBER, NO_VECTOR};
        for (int what = 0; what <= 2; what++) {
            int its = what;
            for (int v : bad[what]) {
                stays("24: plan(" + its + ", " + v + "), BAD ahead of FULL", -2, x -> x.plan(its, v));
            }
            Twins.stays(due, Twins.FULL, "24: plan(" + its + ", 0)", -4, x -> x.plan(its, 0));
        }
    }

    private static void promise25Behind() {
        for (int i : ANY) {
            for (int vector : NO_VECTOR) {
                stays("25: behind(" + vector + ", " + i + "), NONE first", -1, x -> x.behind(vector, i));
            }
        }
        for (int i : Due.beside(-1, 6)) {
            stays("25: behind(1, " + i + ")", -5, x -> x.behind(1, i));
        }
    }

    private static void promises26And27() {
        for (int vector : NO_VECTOR) {
            stays("26: write(" + vector + "), THE PAPER stays", -1, x -> x.write(vector));
        }
        for (int i : Due.beside(0, 93)) {
            stays("27: paper(" + i + ")", -1, x -> x.paper(i));
        }
    }

    private static void promise28Judge() {
        for (int other : ANY) {
            for (int list : NO_LIST) {
                stays("28: judge(" + list + ", " + other + "), list first", -1, x -> x.judge(list, other));
            }
        }
        for (int vector : NO_VECTOR) {
            stays("28: judge(0, " + vector + "), ahead of NOTHING", -1, x -> x.judge(0, vector));
            stays("28: judge(2, " + vector + ")", -1, x -> x.judge(2, vector));
        }
        Twins.stays(due, Twins.SOME, "28: judge(0, 0)", -11, x -> x.judge(0, 0));
    }

    private static void promise29List() {
        for (int list : NO_LIST) {
            for (int n : ANY) {
                stays("29: list(" + list + ", " + n + "), NONE first", -1, x -> x.list(list, n));
            }
        }
        for (int list = 0; list <= 3; list++) {
            int its = list;
            stays("29: list(" + its + ", 13)", -2, x -> x.list(its, 13));
            stays("29: list(" + its + ", greatest)", -2, x -> x.list(its, Integer.MAX_VALUE));
            stays("29: list(" + its + ", -1)", -14, x -> x.list(its, -1));
            stays("29: list(" + its + ", least)", -14, x -> x.list(its, Integer.MIN_VALUE));
        }
    }

    private static void promise30Lay() {
        for (int i : ANY) {
            for (int list : NO_LIST) {
                stays("30: lay(" + list + ", " + i + ", 7), NONE first", -1, x -> x.lay(list, i, 7));
            }
            Twins.stays(due, Twins.NEW, "30: lay(1, " + i + ", 7), ahead of BEYOND", -11, x -> x.lay(1, i, 7));
            Twins.stays(due, Twins.SOME, "30: lay(0, " + i + ", 7), ahead of BEYOND", -11, x -> x.lay(0, i, 7));
            Twins.stays(due, Twins.SOME, "30: lay(1, " + i + ", 7), no place", -13, x -> x.lay(1, i, 7));
        }
        for (int i : Due.beside(0, 11)) {
            Twins.stays(due, Twins.SOME, "30: lay(3, " + i + ", 7)", -13, x -> x.lay(3, i, 7));
            Twins.stays(due, Twins.FULL, "30: lay(0, " + i + ", 7)", -13, x -> x.lay(0, i, 7));
        }
    }

    private static void promise31Get() {
        for (int i : Due.beside(0, 11)) {
            stays("31: get(3, " + i + ")", Long.MIN_VALUE, x -> x.get(3, i));
        }
        for (int list : NO_LIST) {
            stays("31: get(" + list + ", 0)", Long.MIN_VALUE, x -> x.get(list, 0));
        }
        Twins.stays(due, Twins.SOME, "31: get(0, 0), nothing there", Long.MIN_VALUE, x -> x.get(0, 0));
        Twins.stays(due, Twins.SOME, "31: get(1, 0), no place", Long.MIN_VALUE, x -> x.get(1, 0));
    }

    private static void promise33Undo() {
        Twins.stays(due, Twins.NEW, "33: undo()", -3, x -> x.undo());
        LevelLadders x = Twins.made(Twins.NEW);
        x.set(0, 1);
        x.set(2, 60);
        x.become(1, 3, 2);
        x.plan(1, 5);
        due.same("33: no IMAGE", x.undo(), -3);
        due.same("33: KIND stays", x.of(0), 1);
        due.same("33: WEIGHT stays", x.of(2), 60);
        due.same("33: VECTOR stays", x.coordinate(1, 2), 1);
        due.same("33: PLAN stays", x.behind(1, 2), 5);
    }

    private static void promise34Count() {
        for (int what : Due.beside(0, 3)) {
            stays("34: count(" + what + ")", -2, x -> x.count(what));
        }
    }
}
