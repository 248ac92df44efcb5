/** Boundary cases of promises 10 to 12 (zeros, vanishing, were), a test for each sentence that names one. */
public final class EdgesOfWeightsTest {
    private static final Due due = new Due();
    private static final int[] NO_LEVEL = Due.beside(0, 5);

    public static void main(String[] args) {
        promise10None();
        promise10One();
        promise10All();
        promise10Rising();
        promise10LeastAndGreatestZero();
        promise10LevelsAndPlaces();
        promise10WhateverTheWeightIs();
        promise11None();
        promise11One();
        promise11FirstThatIsNotNought();
        promise11More();
        promise11LevelNought();
        promise11EachModeIsAsked();
        promise11LevelsAndPlaces();
        promise12NumbersBeyond();
        promise12NoughtAndHundred();
        promise12NoneOneAll();
        promise12LevelsAndPlaces();
        due.end("EdgesOfWeightsTest");
    }

    private static void zerosAre(LevelLadders x, int level, int... wants) {
        due.same("10: how many of " + level, x.zeros(level, -1), wants.length);
        for (int i = 0; i < wants.length; i++) {
            due.same("10: zeros(" + level + ", " + i + ")", x.zeros(level, i), wants[i]);
        }
        due.each("10: i of " + level, Due.beside(-1, wants.length - 1), -5, i -> x.zeros(level, i));
    }

    private static void promise10None() {
        zerosAre(new LevelLadders(), 0);
        for (int kind = 3; kind <= 4; kind++) {
            for (int level = 0; level <= 5; level++) {
                zerosAre(Due.withLaw(kind, 0, 0, 1), level);
            }
        }
    }

    private static void promise10One() {
        zerosAre(new LevelLadders(), 1, 0);
        zerosAre(Due.withLaw(2, 0, 0, 100), 1, 50);
    }

    private static void promise10All() {
        int[] all = new int[101];
        for (int h = 0; h <= 100; h++) {
            all[h] = h;
        }
        for (int level = 1; level <= 5; level++) {
            zerosAre(Due.withLaw(3, 0, 0, 0), level, all);
        }
        zerosAre(Due.withLaw(4, 0, 0, 0), 0);
    }

    /** By c 26 the DETERMINANT of LEVEL 2 is 0 by h 0 and two more, those of 16 h h + 42 h + 26: 11 and -1. */
    private static void promise10Rising() {
        zerosAre(Due.withLaw(1, 26, 7, 1), 2, 0, 11, 100);
    }

    /** A TURNED one at LEVEL 1 is f less twice h. */
    private static void promise10LeastAndGreatestZero() {
        zerosAre(Due.withLaw(2, 0, 0, 0), 1, 0);
        zerosAre(Due.withLaw(2, 0, 0, 99), 1, 100);
        zerosAre(Due.withLaw(2, 0, 0, 2), 1, 1);
    }

    private static void promise10LevelsAndPlaces() {
        LevelLadders x = Due.withLaw(1, 26, 7, 1);
        due.each("10: level", NO_LEVEL, -1, level -> x.zeros(level, -1));
        due.each("10: level by 0", NO_LEVEL, -1, level -> x.zeros(level, 0));
        due.each("10: level ahead of i", NO_LEVEL, -1, level -> x.zeros(level, -2));
        for (int level = 0; level <= 5; level++) {
            int its = level;
            due.each("10: i of " + its, Due.beside(-1, x.zeros(its, -1) - 1), -5, i -> x.zeros(its, i));
        }
    }

    private static void promise10WhateverTheWeightIs() {
        for (int h : new int[] {0, 1, 100}) {
            zerosAre(Due.withLaw(1, 26, h, 1), 2, 0, 11, 100);
        }
    }

    private static void noNull(LevelLadders x, int level, int many) {
        due.same("11: how many of " + level, x.vanishing(level, -1), many);
        due.each("11: no NULL of " + level, new int[] {0, 1, 2, 3, 4, 5, 6}, -5, i -> x.vanishing(level, i));
        due.each("11: i of " + level, Due.beside(-1, 6), -5, i -> x.vanishing(level, i));
    }

    private static void nullIs(LevelLadders x, int level, int... wants) {
        due.same("11: one of " + level, x.vanishing(level, -1), 1);
        for (int i = 0; i < wants.length; i++) {
            due.same("11: vanishing(" + level + ", " + i + ")", x.vanishing(level, i), wants[i]);
        }
        due.each("11: i of " + level, Due.beside(-1, wants.length - 1), -5, i -> x.vanishing(level, i));
    }

    private static void promise11None() {
        for (int level = 1; level <= 5; level++) {
            noNull(Due.withLaw(1, 26, 7, 1), level, 0);
        }
    }

    private static void promise11One() {
        nullIs(new LevelLadders(), 1, 1);
        nullIs(new LevelLadders(), 2, 1, Due.mod(-3 * 51));
        // L(1) makes 3 of the first BASIS VECTOR and 46 of the second, which is -3 by 68.
        nullIs(Due.withLaw(1, 26, 11, 1), 2, 1, 68);
    }

    private static void promise11FirstThatIsNotNought() {
        // L(-2) L(-1) less half of L(-1) L(-1) L(-1), by c -2 and h 0: told by hand.
        nullIs(Due.withLaw(1, 99, 0, 1), 3, 0, 1, 50);
        LevelLadders x = Due.withLaw(1, 63, 38, 1);
        due.same("11: c 63, h 38, LEVEL 5", x.vanishing(5, -1), 1);
        due.same("11: first is 0", x.vanishing(5, 0), 0);
        due.same("11: second is 0", x.vanishing(5, 1), 0);
        due.same("11: third is 1", x.vanishing(5, 2), 1);
    }

    private static void promise11More() {
        for (int level = 2; level <= 5; level++) {
            noNull(Due.withLaw(3, 0, 0, 0), level, Due.sizeOf(level));
        }
        nullIs(Due.withLaw(3, 0, 0, 0), 1, 1);
    }

    private static void promise11LevelNought() {
        for (int kind = 0; kind <= 4; kind++) {
            for (int v : new int[] {0, 1, 100}) {
                nullIs(Due.withLaw(kind, v, v, v), 0, 1);
            }
        }
    }

    /** By STRINGS the BASIS VECTOR of k alone is told by L(k) alone. */
    private static void promise11EachModeIsAsked() {
        for (int level = 1; level <= 5; level++) {
            noNull(Due.withLaw(3, 0, 0, 1), level, 0);
        }
    }

    private static void promise11LevelsAndPlaces() {
        LevelLadders x = new LevelLadders();
        due.each("11: level", NO_LEVEL, -1, level -> x.vanishing(level, -1));
        due.each("11: level by 0", NO_LEVEL, -1, level -> x.vanishing(level, 0));
        due.each("11: level ahead of i", NO_LEVEL, -1, level -> x.vanishing(level, -2));
    }

    private static void noneBy(LevelLadders x, int level, int v) {
        due.same("12: were(" + level + ", " + v + ", -1)", x.were(level, v, -1), 0);
        due.each("12: i by " + v, new int[] {0, 1, 100}, -5, i -> x.were(level, v, i));
        due.each("12: i far by " + v, Due.beside(-1, 100), -5, i -> x.were(level, v, i));
    }

    private static void wereAre(LevelLadders x, int level, int v, int... wants) {
        due.same("12: were(" + level + ", " + v + ", -1)", x.were(level, v, -1), wants.length);
        for (int i = 0; i < wants.length; i++) {
            due.same("12: were(" + level + ", " + v + ", " + i + ")", x.were(level, v, i), wants[i]);
        }
        due.each("12: i by " + v, Due.beside(-1, wants.length - 1), -5, i -> x.were(level, v, i));
    }

    /** These are not taken modulo 101, though there are WERE by what they would be. */
    private static void promise12NumbersBeyond() {
        int[] beyond = {Integer.MIN_VALUE, -101, -100, -1, 101, 102, 201, Integer.MAX_VALUE};
        for (int v : beyond) {
            for (int level = 0; level <= 5; level++) {
                noneBy(new LevelLadders(), level, v);
            }
        }
        wereAre(new LevelLadders(), 1, 100, 50);
        wereAre(new LevelLadders(), 1, 0, 0);
        wereAre(new LevelLadders(), 1, 1, 51);
    }

    private static void promise12NoughtAndHundred() {
        LevelLadders x = Due.withLaw(1, 26, 7, 1);
        for (int level = 0; level <= 5; level++) {
            due.same("12: by 0 as ZEROS of " + level, x.were(level, 0, -1), x.zeros(level, -1));
            due.same("12: first by 0 as ZEROS of " + level, x.were(level, 0, 0), x.zeros(level, 0));
        }
        // By STRINGS h is of no matter.
        LevelLadders y = Due.withLaw(3, 0, 7, 100);
        due.same("12: all by 100", y.were(1, 100, -1), 101);
        due.same("12: the last by 100", y.were(1, 100, 100), 100);
        noneBy(y, 1, 99);
        noneBy(y, 1, 0);
    }

    private static void promise12NoneOneAll() {
        int[] all = new int[101];
        for (int h = 0; h <= 100; h++) {
            all[h] = h;
        }
        for (int kind = 0; kind <= 4; kind++) {
            LevelLadders x = Due.withLaw(kind, 3, 4, 5);
            wereAre(x, 0, 1, all);
            noneBy(x, 0, 0);
            noneBy(x, 0, 2);
            noneBy(x, 0, 100);
        }
        wereAre(Due.withLaw(2, 0, 0, 9), 1, 1, 4);
    }

    private static void promise12LevelsAndPlaces() {
        LevelLadders x = new LevelLadders();
        due.each("12: level", NO_LEVEL, -1, level -> x.were(level, 0, -1));
        due.each("12: level ahead of v", NO_LEVEL, -1, level -> x.were(level, 101, -1));
        due.each("12: level ahead of i", NO_LEVEL, -1, level -> x.were(level, 0, -2));
    }
}
