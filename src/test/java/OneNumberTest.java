/**
 * One number of a call run through all that is told and far beyond, the others such as may be asked for: the class
 * answers as the model does, or as the document's words tell.
 */
public final class OneNumberTest {
    private static final Due due = new Due();
    private static final int LEAST = -130, MOST = 260;
    private static final int[] COORDINATES = {0, 1, 9, 10, 99, 100};

    public static void main(String[] args) {
        for (String name : Numbers.OF_METHODS.keySet()) {
            alone(new Pair(due, 1), name, Numbers.OF_METHODS.get(name));
        }
        for (int number = LEAST; number <= MOST; number++) {
            byRow(number);
            byPlace(number);
        }
        for (int v = 0; v <= 100; v++) {
            byNumberOfLaw(v);
            byCoordinate(v);
        }
        for (int text = 0; text < 30; text++) {
            byPaper(text);
        }
        for (int seed = -200; seed <= 200; seed++) {
            bySeed(seed);
        }
        due.end("OneNumberTest");
    }

    private static void alone(Pair pair, String name, int[][] numbers) {
        for (int place = 0; place < numbers.length; place++) {
            int[] told = new int[numbers.length];
            for (int i = 0; i < told.length; i++) {
                told[i] = mayBeAsked(numbers[i]);
            }
            for (int number = LEAST; number <= MOST; number++) {
                told[place] = number;
                pair.sameAnew(name, told);
            }
        }
    }

    /** The least that is told, but of LEVELS and MODES one between. */
    private static int mayBeAsked(int[] numbers) {
        return numbers == Numbers.LEVEL ? 3 : numbers == Numbers.MODE ? 0 : numbers[2];
    }

    private static void byRow(int number) {
        for (int what = -1; what <= 2; what++) {
            new Pair(due, 1).sameAnew("plan", what, number);
        }
    }

    private static void byPlace(int number) {
        Pair pair = new Pair(due, Pair.NEW);
        for (int level = 0; level <= 5; level++) {
            pair.same("become", 0, level, 0);
            pair.same("behind", 0, number);
            pair.same("coordinate", 0, number);
            pair.same("put", 0, number, 7);
            pair.same("become", 1, level, number);
            pair.same("partition", level, number, 0);
            pair.same("partition", level, 0, number);
            pair.same("form", level, 0, number);
            pair.same("act", 0, level, 0, number);
        }
    }

    private static void byNumberOfLaw(int v) {
        LevelLadders x = new LevelLadders();
        x.set(0, 3);
        for (int what = 1; what <= 3; what++) {
            x.set(what, v);
            due.same("3: of() behind set(" + what + ", " + v + ")", x.of(what), v);
            due.same("2: set() behind set(" + what + ", " + v + ")", x.set(what, v), v);
        }
        due.same("6: WEIGHT " + v, x.act(0, 0, 0, 0), v);
        due.same("4: FIGURE " + v, x.bracket(1, -1, 1), v);
        x.set(0, 1);
        due.same("4: CHARGE " + v, x.bracket(2, -2, 1), Due.mod(v * 51L));
    }

    private static void byCoordinate(int v) {
        LevelLadders x = new LevelLadders();
        x.put(0, 0, v);
        due.same("17: coordinate() behind put(0, 0, " + v + ")", x.coordinate(0, 0), v);
        due.same("18: put() behind put(0, 0, " + v + ")", x.put(0, 0, 1), v);
        x.put(1, 0, 3);
        x.add(0, 1, v);
        due.same("20: add(0, 1, " + v + ")", x.coordinate(0, 0), Due.mod(1 + 3L * v));
        x.plan(1, v);
        due.same("25: times " + v, x.behind(1, 0), Due.mod(3L * v));
        x.put(2, 0, v);
        due.same("21: by " + v, x.product(1, 2), Due.mod(3L * v));
        x.list(0, 1);
        x.lay(0, 0, v);
        due.same("28: " + v + " as told", x.judge(0, 2), -5);
        due.same("28: " + v + " and another", x.judge(0, 0), Due.mod(1 + 3L * v) == v ? -5 : 0);
        String text = v == 0 ? "" : v == 1 ? "[]" : v + "[]";
        due.same("26: " + text, Due.written(x, 2).equals(text) ? 1 : 0, 1);
        if (v > 0 && v < 100) {
            due.same("14: " + v + "[]", Due.read(x, 3, v + "[]"), 0);
            due.same("14: told by " + v + "[]", x.coordinate(3, 0), v);
        }
    }

    /** Texts of unlike lengths, the longest first, byte by byte, and what is beside their bytes. */
    private static void byPaper(int text) {
        Pair pair = new Pair(due, Pair.NEW);
        pair.same("become", 0, 5, 0);
        for (int i = 0; i < 7; i++) {
            pair.same("put", 0, i, text == 0 ? 100 : COORDINATES[(text * (i + 1) + i * i) % COORDINATES.length]);
        }
        pair.same("write", 0);
        for (int i = LEAST; i <= MOST; i++) {
            pair.same("paper", i);
        }
    }

    private static void bySeed(int seed) {
        for (int room = 0; room < Pair.LAWS.length; room++) {
            Pair pair = new Pair(due, room);
            for (int n = 1; n <= 9; n++) {
                pair.same("odds", n, seed, 1, 0);
                pair.same("odds", n, seed, 7, 1);
            }
        }
    }
}
