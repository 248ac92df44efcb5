/** Boundary cases of promises 15 to 22, a test for each sentence that names one. */
public final class EdgesOfVectorsTest {
    private static final Due due = new Due();
    private static final int[] NO_VECTOR = Due.beside(0, 3);
    private static final int[] NO_NUMBER = Due.beside(0, 100);

    public static void main(String[] args) {
        promise15LeastAndGreatest();
        promise15NoSuchNumber();
        promise15InPlaceOfWhatItWas();
        promise16Vectors();
        promise17Places();
        promise18Numbers();
        promise18Places();
        promise19UpToLevelFive();
        promise19DownToLevelNought();
        promise19OfNought();
        promise19NoSuchNumber();
        promise20Often();
        promise20ToItself();
        promise20UnlikeLevels();
        promise20HundredAndOneIsNought();
        promise20OrderOfAnswers();
        promise21UnlikeLevels();
        promise21LevelNought();
        promise21WithItself();
        promise21HundredAndOneIsNought();
        promise21NoSuchVector();
        promise22LevelNought();
        promise22OfNought();
        promise22EachModeIsAsked();
        promise22NoSuchVector();
        due.end("EdgesOfVectorsTest");
    }

    private static void promise15LeastAndGreatest() {
        for (int vector = 0; vector <= 3; vector++) {
            LevelLadders x = new LevelLadders();
            for (int level = 0; level <= 5; level++) {
                int last = Due.sizeOf(level) - 1;
                due.same("15: first of " + level, x.become(vector, level, 0), 1);
                due.same("15: first COORDINATE", x.coordinate(vector, 0), 1);
                due.same("15: last of " + level, x.become(vector, level, last), 1);
                due.same("15: last COORDINATE", x.coordinate(vector, last), 1);
                due.same("15: no other", x.count(0), 1);
            }
        }
    }

    private static void promise15NoSuchNumber() {
        LevelLadders x = new LevelLadders();
        due.each("15: vector", NO_VECTOR, -1, vector -> x.become(vector, 0, 0));
        due.each("15: level", Due.beside(0, 5), -1, level -> x.become(0, level, 0));
        for (int level = 0; level <= 5; level++) {
            int its = level;
            due.each("15: i of " + its, Due.beside(0, Due.sizeOf(its) - 1), -1, i -> x.become(0, its, i));
        }
        due.same("15: none became any", x.count(0) + x.level(0), 0);
    }

    private static void promise15InPlaceOfWhatItWas() {
        LevelLadders x = new LevelLadders();
        x.become(0, 5, 0);
        for (int i = 0; i < 7; i++) {
            x.put(0, i, 100);
        }
        x.become(0, 5, 6);
        due.row("15: at the same LEVEL", Due.coordinates(x, 0), 0, 0, 0, 0, 0, 0, 1);
        x.become(0, 0, 0);
        due.row("15: at LEVEL 0", Due.coordinates(x, 0), 1);
        x.raise(0, -5);
        due.row("15: nothing is left above", Due.coordinates(x, 0), 1, 0, 0, 0, 0, 0, 0);
    }

    private static void promise16Vectors() {
        LevelLadders x = new LevelLadders();
        x.become(0, 5, 0);
        x.become(3, 4, 0);
        due.same("16: the first", x.level(0), 5);
        due.same("16: the last", x.level(3), 4);
        due.same("16: as it was", x.level(1), 0);
        due.each("16: vector", NO_VECTOR, -1, x::level);
    }

    private static void promise17Places() {
        LevelLadders x = new LevelLadders();
        for (int level = 0; level <= 5; level++) {
            int last = Due.sizeOf(level) - 1;
            x.become(3, level, last);
            due.same("17: last of " + level, x.coordinate(3, last), 1);
            due.same("17: first of " + level, x.coordinate(3, 0), last == 0 ? 1 : 0);
            due.each("17: i of " + level, Due.beside(0, last), -1, i -> x.coordinate(3, i));
        }
        due.each("17: vector", NO_VECTOR, -1, vector -> x.coordinate(vector, 0));
    }

    private static void promise18Numbers() {
        LevelLadders x = new LevelLadders();
        due.same("18: greatest", x.put(0, 0, 100), 0);
        due.each("18: v", NO_NUMBER, -2, v -> x.put(0, 0, v));
        due.same("18: greatest again", x.put(0, 0, 100), 100);
        due.same("18: least", x.put(0, 0, 0), 100);
        due.each("18: v", NO_NUMBER, -2, v -> x.put(0, 0, v));
        due.same("18: one", x.put(0, 0, 1), 0);
        due.same("18: it is one", x.coordinate(0, 0), 1);
    }

    private static void promise18Places() {
        LevelLadders x = new LevelLadders();
        for (int level = 0; level <= 5; level++) {
            int last = Due.sizeOf(level) - 1;
            x.become(2, level, 0);
            due.same("18: first of " + level, x.put(2, 0, 0), 1);
            due.same("18: last of " + level, x.put(2, last, 50 + level), 0);
            due.same("18: it is as told", x.coordinate(2, last), 50 + level);
            due.each("18: i of " + level, Due.beside(0, last), -1, i -> x.put(2, i, 9));
            due.each("18: i ahead of v", Due.beside(0, last), -1, i -> x.put(2, i, 101));
            due.same("18: no other", x.count(0), 1);
        }
        due.each("18: vector", NO_VECTOR, -1, vector -> x.put(vector, 0, 9));
        due.each("18: vector ahead of v", NO_VECTOR, -1, vector -> x.put(vector, 0, -1));
    }

    private static void promise19UpToLevelFive() {
        for (int level = 0; level <= 5; level++) {
            LevelLadders x = new LevelLadders();
            x.become(1, level, 0);
            int m = level - 5;
            due.same("19: LEVEL " + level + " to 6", x.raise(1, m - 1), level == 0 ? -1 : -3);
            due.same("19: stays", x.level(1), level);
            due.same("19: LEVEL " + level + " to 5", x.raise(1, m), 5);
            due.same("19: then to 6", x.raise(1, -1), -3);
            due.same("19: then to 10", x.raise(1, -5), -3);
            due.same("19: then stays", x.level(1), 5);
        }
    }

    private static void promise19DownToLevelNought() {
        for (int level = 0; level <= 5; level++) {
            LevelLadders x = Due.withLaw(3, 0, 7, 1);
            x.become(1, level, 0);
            due.same("19: LEVEL " + level + " to -1", x.raise(1, level + 1), level == 5 ? -1 : -3);
            due.same("19: stays", x.level(1), level);
            due.same("19: LEVEL " + level + " to 0", x.raise(1, level), 0);
            due.same("19: what is there", x.coordinate(1, 0), level == 0 ? 7 : level);
            due.same("19: then to -1", x.raise(1, 1), -3);
            due.same("19: then to -5", x.raise(1, 5), -3);
            due.same("19: then stays", x.coordinate(1, 0), level == 0 ? 7 : level);
        }
    }

    /** A VECTOR that is 0 is refused and goes as any other. */
    private static void promise19OfNought() {
        LevelLadders x = new LevelLadders();
        due.same("19: 0 below LEVEL 0", x.raise(0, 1), -3);
        due.same("19: 0 to LEVEL 5", x.raise(0, -5), 5);
        due.same("19: 0 above LEVEL 5", x.raise(0, -1), -3);
        due.same("19: 0 stays at LEVEL 5", x.raise(0, 0), 5);
        due.same("19: 0 to LEVEL 0", x.raise(0, 5), 0);
        due.same("19: it is 0", x.count(0), 0);
    }

    private static void promise19NoSuchNumber() {
        LevelLadders x = new LevelLadders();
        due.each("19: vector", NO_VECTOR, -1, vector -> x.raise(vector, 0));
        due.each("19: vector ahead of STATE", NO_VECTOR, -1, vector -> x.raise(vector, 1));
        due.each("19: m", Due.beside(-5, 5), -1, m -> x.raise(0, m));
        due.same("19: stays", x.level(0), 0);
    }

    private static LevelLadders two() {
        LevelLadders x = new LevelLadders();
        x.become(0, 3, 0);
        x.become(3, 3, 2);
        x.put(3, 1, 100);
        return x;
    }

    private static void promise20Often() {
        LevelLadders x = two();
        due.same("20: not once", x.add(0, 3, 0), 3);
        due.row("20: not once", Due.coordinates(x, 0), 1, 0, 0);
        due.same("20: once", x.add(0, 3, 1), 3);
        due.row("20: once", Due.coordinates(x, 0), 1, 100, 1);
        due.same("20: 100 times", x.add(0, 3, 100), 3);
        due.row("20: 100 times, 101 in all", Due.coordinates(x, 0), 1, 0, 0);
        due.each("20: often", NO_NUMBER, -2, often -> x.add(0, 3, often));
        due.row("20: refused", Due.coordinates(x, 0), 1, 0, 0);
        due.row("20: the other one", Due.coordinates(x, 3), 0, 100, 1);
    }

    private static void promise20ToItself() {
        LevelLadders x = two();
        due.same("20: itself not once", x.add(3, 3, 0), 3);
        due.row("20: itself not once", Due.coordinates(x, 3), 0, 100, 1);
        due.same("20: itself once", x.add(3, 3, 1), 3);
        due.row("20: itself once", Due.coordinates(x, 3), 0, 99, 2);
        due.same("20: itself 99 times", x.add(3, 3, 99), 3);
        due.row("20: itself 99 times", Due.coordinates(x, 3), 0, 2, 99);
        due.same("20: itself 100 times", x.add(3, 3, 100), 3);
        due.row("20: itself 100 times", Due.coordinates(x, 3), 0, 0, 0);
    }

    private static void promise20UnlikeLevels() {
        LevelLadders x = two();
        x.become(1, 4, 0);
        x.become(2, 2, 0);
        x.put(2, 0, 0);
        for (int often : new int[] {0, 1, 100}) {
            due.same("20: one LEVEL above", x.add(0, 1, often), -3);
            due.same("20: one LEVEL below, of 0", x.add(0, 2, often), -3);
            due.same("20: to 0", x.add(2, 0, often), -3);
        }
        due.row("20: stays", Due.coordinates(x, 0), 1, 0, 0);
        due.row("20: 0 stays", Due.coordinates(x, 2), 0, 0);
    }

    private static void promise20HundredAndOneIsNought() {
        LevelLadders x = new LevelLadders();
        x.put(0, 0, 100);
        x.put(1, 0, 1);
        due.same("20: LEVEL 0", x.add(0, 1, 1), 0);
        due.same("20: 101", x.coordinate(0, 0), 0);
        x.add(0, 1, 100);
        due.same("20: 100", x.coordinate(0, 0), 100);
        x.put(1, 0, 100);
        x.add(0, 1, 100);
        due.same("20: 100 and 10000", x.coordinate(0, 0), 0);
    }

    private static void promise20OrderOfAnswers() {
        LevelLadders x = two();
        due.each("20: one", NO_VECTOR, -1, one -> x.add(one, 0, 1));
        due.each("20: other", NO_VECTOR, -1, other -> x.add(0, other, 1));
        due.each("20: one ahead of often", NO_VECTOR, -1, one -> x.add(one, 0, 101));
        due.each("20: other ahead of often", NO_VECTOR, -1, other -> x.add(0, other, -1));
        due.each("20: often ahead of LEVELS", NO_NUMBER, -2, often -> x.add(0, 1, often));
        due.same("20: LEVELS", x.add(0, 1, 1), -3);
    }

    private static void promise21UnlikeLevels() {
        LevelLadders x = Due.withLaw(1, 26, 7, 1);
        for (int one = 0; one <= 5; one++) {
            for (int other = 0; other <= 5; other++) {
                x.become(0, one, 0);
                x.become(1, other, 0);
                int want = one == other ? x.form(one, 0, 0) : 0;
                due.same("21: LEVELS " + one + " and " + other, x.product(0, 1), want);
            }
        }
        due.same("21: none is 0", Math.min(x.form(1, 0, 0), x.form(5, 0, 0)) > 0 ? 1 : 0, 1);
    }

    private static void promise21LevelNought() {
        LevelLadders x = new LevelLadders();
        due.same("21: of 0", x.product(0, 3), 0);
        x.put(0, 0, 1);
        due.same("21: with 0", x.product(0, 3), 0);
        x.put(3, 0, 100);
        due.same("21: FORM 1", x.product(0, 3), 100);
    }

    private static void promise21WithItself() {
        LevelLadders x = Due.withLaw(3, 0, 7, 1);
        x.become(2, 2, 1);
        x.put(2, 0, 3);
        due.same("21: with itself", x.product(2, 2), 2 * 9 + 2);
    }

    private static void promise21HundredAndOneIsNought() {
        LevelLadders x = new LevelLadders();
        x.put(0, 0, 100);
        due.same("21: 100 by 100", x.product(0, 0), 1);
        x = Due.withLaw(3, 0, 0, 100);
        x.become(0, 5, 0);
        for (int i = 0; i < 7; i++) {
            x.put(0, i, 100);
        }
        // STRINGS by FIGURE -1: 5, 4, 6, 6, 8, 12, 120, less where there is an odd number of modes.
        due.same("21: LEVEL 5", x.product(0, 0), Due.mod(-5 + 4 + 6 - 6 - 8 + 12 - 120));
    }

    private static void promise21NoSuchVector() {
        LevelLadders x = new LevelLadders();
        due.each("21: one", NO_VECTOR, -1, one -> x.product(one, 0));
        due.each("21: other", NO_VECTOR, -1, other -> x.product(0, other));
        due.each("21: both", NO_VECTOR, -1, both -> x.product(both, both));
    }

    private static void promise22LevelNought() {
        for (int kind = 0; kind <= 4; kind++) {
            LevelLadders x = Due.withLaw(kind, 26, 7, 9);
            for (int v : new int[] {0, 1, 100}) {
                x.put(0, 0, v);
                due.same("22: LEVEL 0, " + v, x.isLowest(0), 1);
            }
        }
    }

    private static void promise22OfNought() {
        LevelLadders x = Due.withLaw(1, 26, 7, 1);
        for (int level = 0; level <= 5; level++) {
            x.become(3, level, 0);
            due.same("22: not 0, of LEVEL " + level, x.isLowest(3), level == 0 ? 1 : 0);
            x.put(3, 0, 0);
            due.same("22: 0 of LEVEL " + level, x.isLowest(3), 1);
        }
    }

    /** By STRINGS the BASIS VECTOR of k alone is told by L(k) alone. */
    private static void promise22EachModeIsAsked() {
        for (int k = 1; k <= 5; k++) {
            LevelLadders x = Due.withLaw(3, 0, 0, 1);
            x.become(0, k, 0);
            due.same("22: told by L(" + k + ")", x.isLowest(0), 0);
            x.set(3, 0);
            due.same("22: told by none", x.isLowest(0), 1);
        }
        // L(1) makes 0 of it, L(2) does not.
        LevelLadders x = Due.withLaw(1, 26, 7, 1);
        x.become(0, 2, 0);
        x.put(0, 0, 30);
        x.put(0, 1, 98);
        due.same("22: L(2) is asked, too", x.isLowest(0), 0);
        due.same("22: L(1) makes 0", x.raise(0, 1), 1);
        due.same("22: of it", x.count(0), 0);
    }

    private static void promise22NoSuchVector() {
        LevelLadders x = new LevelLadders();
        due.each("22: vector", NO_VECTOR, -1, x::isLowest);
    }
}
