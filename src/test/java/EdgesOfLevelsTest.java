/** Boundary cases of promises 5 to 9, a test for each sentence that names one. */
public final class EdgesOfLevelsTest {
    private static final Due due = new Due();
    private static final int[] NO_LEVEL = Due.beside(0, 5);

    public static void main(String[] args) {
        promise5LevelsAndPlaces();
        promise5HowManyNumbers();
        promise5FirstAndLastNumber();
        promise5LevelNoughtHasNoNumbers();
        promise6Modes();
        promise6LevelsAndPlaces();
        promise6UpToLevelFive();
        promise6DownToLevelNought();
        promise6CoordinatesThatThereAreNot();
        promise6OfTheLowest();
        promise6JoinedFromTheFirstNumberOn();
        promise6CentreAtTheFirstNumberAlone();
        promise6HundredAndOneIsNought();
        promise7LevelsAndPlaces();
        promise7LevelNoughtHasFormOne();
        promise7HundredAndOneIsNought();
        promise8Levels();
        promise8LevelNoughtHasOne();
        promise8NoughtAndHundred();
        promise9Levels();
        promise9NoneOneAll();
        due.end("EdgesOfLevelsTest");
    }

    private static void promise5LevelsAndPlaces() {
        LevelLadders x = new LevelLadders();
        int[] sizes = {1, 1, 2, 3, 5, 7};
        int[] lastLengths = {0, 1, 2, 3, 4, 5};
        for (int level = 0; level <= 5; level++) {
            int its = level;
            due.same("5: first of " + its, x.partition(its, 0, -1), its == 0 ? 0 : 1);
            due.same("5: last of " + its, x.partition(its, sizes[its] - 1, -1), lastLengths[its]);
            due.each("5: i of " + its, Due.beside(0, sizes[its] - 1), -1, i -> x.partition(its, i, -1));
        }
        due.each("5: level", NO_LEVEL, -1, level -> x.partition(level, 0, -1));
        due.each("5: level ahead of k", NO_LEVEL, -1, level -> x.partition(level, 0, -2));
        due.each("5: i ahead of k", Due.beside(0, 6), -1, i -> x.partition(5, i, -2));
    }

    private static void promise5HowManyNumbers() {
        LevelLadders x = new LevelLadders();
        int[] lengths = {1, 2, 2, 3, 3, 4, 5};
        for (int i = 0; i < 7; i++) {
            int its = i;
            due.same("5: partition(5, " + its + ", -1)", x.partition(5, its, -1), lengths[its]);
            due.each("5: k of " + its, Due.beside(-1, lengths[its] - 1), -5, k -> x.partition(5, its, k));
        }
    }

    private static void promise5FirstAndLastNumber() {
        LevelLadders x = new LevelLadders();
        int[] firsts = {5, 4, 3, 3, 2, 2, 1};
        int[] lasts = {5, 1, 2, 1, 1, 1, 1};
        for (int i = 0; i < 7; i++) {
            due.same("5: first number of " + i, x.partition(5, i, 0), firsts[i]);
            due.same("5: last number of " + i, x.partition(5, i, x.partition(5, i, -1) - 1), lasts[i]);
        }
    }

    private static void promise5LevelNoughtHasNoNumbers() {
        LevelLadders x = new LevelLadders();
        due.same("5: none", x.partition(0, 0, -1), 0);
        due.same("5: no first", x.partition(0, 0, 0), -5);
        due.each("5: k", Due.beside(-1, -1), -5, k -> x.partition(0, 0, k));
        due.each("5: i", Due.beside(0, 0), -1, i -> x.partition(0, i, -1));
    }

    private static void promise6Modes() {
        LevelLadders x = new LevelLadders();
        due.same("6: L(-5)", x.act(-5, 0, 0, 0), 1);
        due.same("6: L(5)", x.act(5, 5, 0, 0), 0);
        due.each("6: m", Due.beside(-5, 5), -1, m -> x.act(m, 0, 0, 0));
        due.each("6: m at LEVEL 5", Due.beside(-5, 5), -1, m -> x.act(m, 5, 6, 0));
        due.each("6: m ahead of j", Due.beside(-5, 5), -1, m -> x.act(m, 5, 0, -1));
    }

    private static void promise6LevelsAndPlaces() {
        LevelLadders x = Due.withLaw(0, 0, 50, 1);
        for (int level = 0; level <= 5; level++) {
            int its = level;
            int last = Due.sizeOf(its) - 1;
            due.same("6: first of " + its, x.act(0, its, 0, 0), 50 + its);
            due.same("6: last of " + its, x.act(0, its, last, last), 50 + its);
            due.each("6: i of " + its, Due.beside(0, last), -1, i -> x.act(0, its, i, 0));
            due.each("6: i of " + its + " ahead of j", Due.beside(0, last), -1, i -> x.act(0, its, i, -1));
        }
        due.each("6: i ahead of STATE, above", Due.beside(0, 6), -1, i -> x.act(-1, 5, i, 0));
        due.each("6: i ahead of STATE, below", Due.beside(0, 0), -1, i -> x.act(1, 0, i, 0));
        due.each("6: level", NO_LEVEL, -1, level -> x.act(0, level, 0, 0));
        due.each("6: level ahead of STATE", NO_LEVEL, -1, level -> x.act(-5, level, 0, 0));
    }

    private static void promise6UpToLevelFive() {
        LevelLadders x = Due.withLaw(3, 0, 0, 1);
        for (int level = 0; level <= 5; level++) {
            int m = level - 5;
            int found = 0;
            for (int j = 0; j < 7; j++) {
                found += x.act(m, level, 0, j);
            }
            due.same("6: LEVEL " + level + " by " + m + " to 5", found, m == 0 ? 0 : 1);
            due.same("6: LEVEL " + level + " by " + (m - 1) + " to 6", x.act(m - 1, level, 0, 0), level == 0 ? -1 : -3);
        }
        due.same("6: LEVEL 5 by -5", x.act(-5, 5, 0, 0), -3);
        due.same("6: LEVEL 1 by -5", x.act(-5, 1, 0, 0), -3);
    }

    private static void promise6DownToLevelNought() {
        LevelLadders x = Due.withLaw(3, 0, 11, 1);
        for (int level = 0; level <= 5; level++) {
            due.same("6: LEVEL " + level + " to 0", x.act(level, level, 0, 0), level == 0 ? 11 : level);
            due.same("6: LEVEL " + level + " to -1", x.act(level + 1, level, 0, 0), level == 5 ? -1 : -3);
        }
        due.same("6: LEVEL 0 by 5", x.act(5, 0, 0, 0), -3);
        due.same("6: LEVEL 4 by 5", x.act(5, 4, 4, 0), -3);
    }

    private static void promise6CoordinatesThatThereAreNot() {
        LevelLadders x = new LevelLadders();
        for (int m = -5; m <= 5; m++) {
            int by = m;
            int from = m < 0 ? 0 : 5;
            int last = Due.sizeOf(from - m) - 1;
            due.same("6: last j by " + by, Math.min(0, x.act(by, from, 0, last)), 0);
            due.each("6: j by " + by, Due.beside(0, last), -5, j -> x.act(by, from, 0, j));
        }
        due.each("6: j behind STATE, above", Due.beside(0, 6), -3, j -> x.act(-1, 5, 0, j));
        due.each("6: j behind STATE, below", Due.beside(0, 0), -3, j -> x.act(1, 0, 0, j));
    }

    /** That m above 0 makes nothing of it is seen one step above: L(m) of L(-m) has SLOPE and CENTRE alone. */
    private static void promise6OfTheLowest() {
        for (int h : new int[] {0, 1, 100}) {
            for (int kind = 0; kind <= 4; kind++) {
                LevelLadders x = Due.withLaw(kind, 26, h, 9);
                due.same("6: h times it", x.act(0, 0, 0, 0), h);
                for (int m = 1; m <= 5; m++) {
                    due.same("6: BASIS VECTOR of " + m + " alone", x.act(-m, 0, 0, 0), 1);
                    for (int j = 1; j < Due.sizeOf(m); j++) {
                        due.same("6: no other", x.act(-m, 0, 0, j), 0);
                    }
                    int want = Due.mod(x.bracket(m, -m, 0) * h + x.bracket(m, -m, 1));
                    due.same("6: nothing else by " + m, x.act(m, m, 0, 0), want);
                }
            }
        }
    }

    private static void actIs(LevelLadders x, int m, int level, int i, int... wants) {
        for (int j = 0; j < wants.length; j++) {
            due.same("6: act(" + m + ", " + level + ", " + i + ", " + j + ")", x.act(m, level, i, j), wants[j]);
        }
    }

    /** -m is k1 or more: put ahead; one less: exchanged, and with the SLOPE. */
    private static void promise6JoinedFromTheFirstNumberOn() {
        LevelLadders x = Due.withLaw(1, 26, 7, 1);
        actIs(x, -3, 2, 0, 0, 0, 1, 0, 0, 0, 0);
        actIs(x, -2, 2, 0, 0, 0, 1, 0, 0);
        actIs(x, -1, 2, 0, 1, 1, 0);
        actIs(x, -1, 1, 0, 0, 1);
        actIs(x, -2, 3, 0, 1, 0, 1, 0, 0, 0, 0);
        actIs(x, -1, 4, 0, 3, 1, 0, 0, 0, 0, 0);
        actIs(x, 0, 1, 0, 8);
    }

    private static void promise6CentreAtTheFirstNumberAlone() {
        LevelLadders x = Due.withLaw(3, 0, 7, 9);
        for (int k = 1; k <= 5; k++) {
            for (int m = 1; m <= k; m++) {
                due.same("6: L(" + m + ") of " + k, x.act(m, k, 0, 0), m == k ? 9 * k : 0);
            }
        }
        actIs(x, 2, 4, 2, 36, 0);
        actIs(x, 2, 4, 3, 0, 18);
        actIs(x, 1, 4, 3, 0, 18, 0);
        actIs(x, 3, 4, 2, 0);
    }

    private static void promise6HundredAndOneIsNought() {
        LevelLadders x = new LevelLadders();
        for (int level = 0; level <= 5; level++) {
            x.set(2, 100 - level);
            due.same("6: 100 at LEVEL " + level, x.act(0, level, 0, 0), 100);
            if (level > 0) {
                x.set(2, 101 - level);
                due.same("6: 101 at LEVEL " + level, x.act(0, level, 0, 0), 0);
            }
        }
        x.set(0, 2);
        x.set(2, 0);
        due.same("6: -1", x.act(0, 1, 0, 0), 100);
        due.same("6: -5", x.act(0, 5, 0, 0), 96);
        x.set(2, 5);
        due.same("6: 5 less 5", x.act(0, 5, 6, 6), 0);
    }

    private static void promise7LevelsAndPlaces() {
        LevelLadders x = Due.withLaw(3, 0, 7, 1);
        int[] ofFirst = {1, 1, 2, 3, 4, 5};
        int[] ofLast = {1, 1, 2, 6, 24, 19};
        for (int level = 0; level <= 5; level++) {
            int its = level;
            int last = Due.sizeOf(its) - 1;
            due.same("7: first of " + its, x.form(its, 0, 0), ofFirst[its]);
            due.same("7: last of " + its, x.form(its, last, last), ofLast[its]);
            due.each("7: i of " + its, Due.beside(0, last), -1, i -> x.form(its, i, 0));
            due.each("7: j of " + its, Due.beside(0, last), -1, j -> x.form(its, 0, j));
        }
        due.each("7: level", NO_LEVEL, -1, level -> x.form(level, 0, 0));
    }

    private static void promise7LevelNoughtHasFormOne() {
        for (int kind = 0; kind <= 4; kind++) {
            for (int v : new int[] {0, 1, 100}) {
                due.same("7: LEVEL 0", Due.withLaw(kind, v, v, v).form(0, 0, 0), 1);
            }
        }
    }

    private static void promise7HundredAndOneIsNought() {
        LevelLadders x = new LevelLadders();
        int[] weights = {0, 50, 51, 100};
        int[] wants = {0, 100, 1, 99};
        for (int i = 0; i < weights.length; i++) {
            x.set(2, weights[i]);
            due.same("7: twice " + weights[i], x.form(1, 0, 0), wants[i]);
        }
        x = Due.withLaw(3, 0, 0, 100);
        due.same("7: -1", x.form(1, 0, 0), 100);
        due.same("7: -2", x.form(2, 0, 0), 99);
        due.same("7: 2 by -1 by -1", x.form(2, 1, 1), 2);
    }

    private static void promise8Levels() {
        LevelLadders x = Due.withLaw(3, 0, 7, 1);
        due.same("8: LEVEL 1", x.determinant(1), 1);
        due.same("8: LEVEL 2", x.determinant(2), 4);
        due.same("8: LEVEL 3", x.determinant(3), 36);
        due.same("8: LEVEL 5", x.determinant(5), Due.mod(5L * 4 * 6 * 6 * 8 * 12 * 120));
        due.each("8: level", NO_LEVEL, -1, x::determinant);
    }

    private static void promise8LevelNoughtHasOne() {
        for (int kind = 0; kind <= 4; kind++) {
            for (int v : new int[] {0, 1, 100}) {
                due.same("8: LEVEL 0", Due.withLaw(kind, v, v, v).determinant(0), 1);
            }
        }
    }

    private static void promise8NoughtAndHundred() {
        LevelLadders x = new LevelLadders();
        for (int level = 1; level <= 5; level++) {
            due.same("8: h 0", x.determinant(level), 0);
        }
        x.set(2, 50);
        due.same("8: twice 50", x.determinant(1), 100);
        x.set(2, 51);
        due.same("8: twice 51", x.determinant(1), 1);
    }

    private static void promise9Levels() {
        LevelLadders x = Due.withLaw(3, 0, 7, 1);
        for (int level = 0; level <= 5; level++) {
            due.same("9: all of " + level, x.rank(level), Due.sizeOf(level));
        }
        due.each("9: level", NO_LEVEL, -1, x::rank);
    }

    private static void promise9NoneOneAll() {
        LevelLadders x = new LevelLadders();
        due.same("9: LEVEL 0 of FREE without h", x.rank(0), 1);
        for (int level = 1; level <= 5; level++) {
            due.same("9: none of " + level, x.rank(level), 0);
        }
        x.set(0, 1);
        x.set(1, 1);
        due.same("9: none of 1", x.rank(1), 0);
        due.same("9: one of 2", x.rank(2), 1);
        due.same("9: one of 3", x.rank(3), 1);
        x.set(2, 7);
        due.same("9: all of 5", x.rank(5), 7);
    }
}
