/** Promises 5 to 12: partition, act, form, determinant, rank, zeros, vanishing, were. */
public final class LevelsTest {
    private static final Due due = new Due();
    private static final int[][][] PARTITIONS = {
        {{}},
        {{1}},
        {{2}, {1, 1}},
        {{3}, {2, 1}, {1, 1, 1}},
        {{4}, {3, 1}, {2, 2}, {2, 1, 1}, {1, 1, 1, 1}},
        {{5}, {4, 1}, {3, 2}, {3, 1, 1}, {2, 2, 1}, {2, 1, 1, 1}, {1, 1, 1, 1, 1}},
    };
    private static final int[] FAR = {-1, 6, Integer.MIN_VALUE, Integer.MAX_VALUE};

    public static void main(String[] args) {
        promise5Partition();
        promise6ActUp();
        promise6ActDown();
        promise6ActByStrings();
        promise6ActWrong();
        promise7Form();
        promise7FormOfStrings();
        promise7FormWrong();
        promise8Determinant();
        promise8DeterminantTurned();
        promise9Rank();
        promise10Zeros();
        promise11Vanishing();
        promise11VanishingOfStrings();
        promise12Were();
        toldByTheLawAsItIs();
        due.end("LevelsTest");
    }

    private static void promise5Partition() {
        LevelLadders x = new LevelLadders();
        for (int level = 0; level <= 5; level++) {
            int[][] all = PARTITIONS[level];
            for (int i = 0; i < all.length; i++) {
                String call = "5: partition(" + level + ", " + i + ", ";
                due.same(call + "-1)", x.partition(level, i, -1), all[i].length);
                for (int k = 0; k < all[i].length; k++) {
                    due.same(call + k + ")", x.partition(level, i, k), all[i][k]);
                }
                due.same(call + "behind)", x.partition(level, i, all[i].length), -5);
                due.same(call + "-2)", x.partition(level, i, -2), -5);
                due.same(call + "max)", x.partition(level, i, Integer.MAX_VALUE), -5);
                due.same(call + "min)", x.partition(level, i, Integer.MIN_VALUE), -5);
            }
            due.same("5: i behind", x.partition(level, all.length, -1), -1);
            due.same("5: i below", x.partition(level, -1, -1), -1);
            due.same("5: NONE ahead of NOT", x.partition(level, all.length, 9), -1);
        }
        for (int level : FAR) {
            due.same("5: level " + level, x.partition(level, 0, -1), -1);
            due.same("5: level ahead of k", x.partition(level, 0, -2), -1);
        }
    }

    private static int act(LevelLadders x, int m, int[] from, int[] to) {
        return x.act(m, together(from), place(from), place(to));
    }

    private static int together(int[] partition) {
        int level = 0;
        for (int k : partition) {
            level += k;
        }
        return level;
    }

    private static int place(int[] partition) {
        int[][] all = PARTITIONS[together(partition)];
        for (int i = 0; i < all.length; i++) {
            if (java.util.Arrays.equals(all[i], partition)) {
                return i;
            }
        }
        throw new IllegalArgumentException("no such partition");
    }

    private static int[] of(int... numbers) {
        return numbers;
    }

    private static void promise6ActUp() {
        for (int kind = 0; kind <= 4; kind++) {
            LevelLadders x = Due.withLaw(kind, 8, 9, 7);
            for (int m = -5; m <= -1; m++) {
                due.same("6: L(" + m + ") of the LOWEST one", act(x, m, of(), of(-m)), 1);
            }
            due.same("6: put ahead", act(x, -3, of(1, 1), of(3, 1, 1)), 1);
            due.same("6: put ahead, no other", act(x, -3, of(1, 1), of(5)), 0);
            due.same("6: put ahead of its like", act(x, -2, of(2, 1), of(2, 2, 1)), 1);
            due.same("6: exchanged", act(x, -1, of(2), of(2, 1)), 1);
            int slope = kind == 2 ? 100 : kind >= 3 ? 0 : 1;
            due.same("6: SLOPE of -1 and -2", act(x, -1, of(2), of(3)), slope);
            due.same("6: SLOPE of -1 and -4", act(x, -1, of(4), of(5)), Due.mod(3 * slope));
            due.same("6: SLOPE of -2 and -3", act(x, -2, of(3), of(5)), slope);
            due.same("6: L(-1) of 3, 1", act(x, -1, of(3, 1), of(4, 1)), Due.mod(2 * slope));
            due.same("6: L(-1) of 3, 1 exchanged", act(x, -1, of(3, 1), of(3, 1, 1)), 1);
            due.same("6: L(-1) of 2, 2", act(x, -1, of(2, 2), of(2, 2, 1)), 1);
            due.same("6: L(-1) of 2, 2 by SLOPES", act(x, -1, of(2, 2), of(3, 2)), Due.mod(2 * slope));
            due.same("6: L(-1) of 2, 2, both", act(x, -1, of(2, 2), of(5)), kind < 3 ? 1 : 0);
        }
    }

    private static void promise6ActDown() {
        for (int h = 0; h <= 100; h += 20) {
            for (int c = 0; c <= 100; c += 25) {
                LevelLadders x = Due.withLaw(1, c, h, 1);
                long half = (long) c * 51;
                due.same("6: L(1) of 1", act(x, 1, of(1), of()), Due.mod(2L * h));
                due.same("6: L(2) of 2", act(x, 2, of(2), of()), Due.mod(4L * h + half));
                due.same("6: L(2) of 1, 1", act(x, 2, of(1, 1), of()), Due.mod(6L * h));
                due.same("6: L(1) of 2", act(x, 1, of(2), of(1)), 3);
                due.same("6: L(1) of 1, 1", act(x, 1, of(1, 1), of(1)), Due.mod(4L * h + 2));
                due.same("6: L(3) of 3", act(x, 3, of(3), of()), Due.mod(6L * h + 2L * c));
                due.same("6: L(4) of 4", act(x, 4, of(4), of()), Due.mod(8L * h + 5L * c));
                due.same("6: L(5) of 5", act(x, 5, of(5), of()), Due.mod(10L * h + 10L * c));
                due.same("6: L(5) of 4, 1", act(x, 5, of(4, 1), of()), Due.mod(18L * h));
                due.same("6: L(2) of 5", act(x, 2, of(5), of(3)), 7);
                due.same("6: L(2) of 4, 1", act(x, 2, of(4, 1), of(2, 1)), 6);
                due.same("6: L(2) of 3, 1 into 2", act(x, 2, of(3, 1), of(2)), 0);
                due.same("6: L(3) of 3, 2", act(x, 3, of(3, 2), of(2)), Due.mod(6L * (h + 2) + 2L * c));
                for (int level = 0; level <= 5; level++) {
                    for (int i = 0; i < PARTITIONS[level].length; i++) {
                        due.same("6: L(0)", x.act(0, level, i, i), Due.mod(h + level));
                    }
                }
            }
        }
        LevelLadders turned = Due.withLaw(2, 24, 30, 7);
        due.same("6: turned L(1) of 1", act(turned, 1, of(1), of()), Due.mod(-60 + 7));
        due.same("6: turned L(2) of 2", act(turned, 2, of(2), of()), Due.mod(-120 + 14 + 12));
        due.same("6: turned L(0) of 2, 1", act(turned, 0, of(2, 1), of(2, 1)), 27);
    }

    private static void promise6ActByStrings() {
        for (int kind = 3; kind <= 4; kind++) {
            int f = 9;
            int each = f * (kind - 2);
            LevelLadders x = Due.withLaw(kind, 44, 13, f);
            due.same("6: L(1) of 1 three times", act(x, 1, of(1, 1, 1), of(1, 1)), Due.mod(3L * each));
            due.same("6: L(2) of 2 twice and 1", act(x, 2, of(2, 2, 1), of(2, 1)), Due.mod(4L * each));
            due.same("6: L(1) of 2 twice and 1", act(x, 1, of(2, 2, 1), of(2, 2)), Due.mod(each));
            due.same("6: L(3) of 2, 1", act(x, 3, of(2, 1), of()), 0);
            due.same("6: L(0) is h", act(x, 0, of(3, 2), of(3, 2)), 13);
            due.same("6: L(-2) goes into its place", act(x, -2, of(3), of(3, 2)), 1);
            due.same("6: L(-2) makes no other", act(x, -2, of(3), of(5)), 0);
        }
    }

    private static void promise6ActWrong() {
        LevelLadders x = new LevelLadders();
        int[] modes = {-6, 6, Integer.MIN_VALUE, Integer.MAX_VALUE};
        for (int m : modes) {
            due.same("6: m " + m, x.act(m, 1, 0, 0), -1);
            due.same("6: m ahead of j", x.act(m, 0, 0, 99), -1);
        }
        for (int level : FAR) {
            due.same("6: level " + level, x.act(0, level, 0, 0), -1);
            due.same("6: level ahead of STATE", x.act(5, level, 0, 0), -1);
        }
        for (int level = 0; level <= 5; level++) {
            int size = PARTITIONS[level].length;
            due.same("6: i behind", x.act(0, level, size, 0), -1);
            due.same("6: i below", x.act(0, level, -1, 0), -1);
            due.same("6: i ahead of STATE", x.act(level < 5 ? 5 : -1, level, size, 0), -1);
            due.same("6: i ahead of NOT", x.act(0, level, size, size), -1);
            for (int m = -5; m <= 5; m++) {
                int to = level - m;
                boolean told = to >= 0 && to <= 5;
                int end = told ? PARTITIONS[to].length : 0;
                due.same("6: j behind", x.act(m, level, 0, end), told ? -5 : -3);
                due.same("6: j below", x.act(m, level, 0, -1), told ? -5 : -3);
                due.same("6: j far", x.act(m, level, 0, Integer.MAX_VALUE), told ? -5 : -3);
            }
        }
    }

    private static void promise7Form() {
        for (int h = 0; h <= 100; h += 10) {
            for (int c = 0; c <= 100; c += 50) {
                LevelLadders x = Due.withLaw(1, c, h, 1);
                due.same("7: LEVEL 0", x.form(0, 0, 0), 1);
                due.same("7: LEVEL 1", x.form(1, 0, 0), Due.mod(2L * h));
                due.same("7: 2 and 2", x.form(2, 0, 0), Due.mod(4L * h + 51L * c));
                due.same("7: 2 and 1, 1", x.form(2, 0, 1), Due.mod(6L * h));
                due.same("7: 1, 1 and 1, 1", x.form(2, 1, 1), Due.mod(4L * h * (2L * h + 1)));
                due.same("7: 3 and 3", x.form(3, 0, 0), Due.mod(6L * h + 2L * c));
                due.same("7: 3 and 2, 1", x.form(3, 0, 1), Due.mod(10L * h));
                due.same("7: 3 and 1, 1, 1", x.form(3, 0, 2), Due.mod(24L * h));
                due.same("7: 2, 1 and 2, 1", x.form(3, 1, 1), Due.mod(8L * h * h + 8L * h + (long) c * h));
                due.same("7: 2, 1 and 1, 1, 1", x.form(3, 1, 2), Due.mod(36L * h * h + 12L * h));
                due.same("7: 1, 1, 1 and itself", x.form(3, 2, 2), Due.mod(24L * h * (h + 1) * (2L * h + 1)));
                for (int level = 0; level <= 5; level++) {
                    for (int i = 0; i < PARTITIONS[level].length; i++) {
                        for (int j = 0; j < i; j++) {
                            due.same("7: both ways", x.form(level, i, j), x.form(level, j, i));
                        }
                    }
                }
            }
        }
    }

    private static void promise7FormOfStrings() {
        for (int kind = 3; kind <= 4; kind++) {
            LevelLadders x = Due.withLaw(kind, 17, 23, 6);
            for (int level = 0; level <= 5; level++) {
                int[][] all = PARTITIONS[level];
                for (int i = 0; i < all.length; i++) {
                    for (int j = 0; j < all.length; j++) {
                        int want = i == j ? stringNorm(all[i], 6 * (kind - 2)) : 0;
                        due.same("7: KIND " + kind + " form(" + level + ", " + i + ", " + j + ")", x.form(level, i, j), want);
                    }
                }
            }
        }
    }

    /** Each number tells its own CENTRE, as often as it has stood so far and once more. */
    private static int stringNorm(int[] partition, int each) {
        long all = 1;
        int stood = 0;
        for (int i = 0; i < partition.length; i++) {
            stood = i > 0 && partition[i] == partition[i - 1] ? stood + 1 : 1;
            all = all * stood * partition[i] * each % 101;
        }
        return (int) all;
    }

    private static void promise7FormWrong() {
        LevelLadders x = new LevelLadders();
        for (int level : FAR) {
            due.same("7: level " + level, x.form(level, 0, 0), -1);
        }
        for (int level = 0; level <= 5; level++) {
            int size = PARTITIONS[level].length;
            due.same("7: i behind", x.form(level, size, 0), -1);
            due.same("7: j behind", x.form(level, 0, size), -1);
            due.same("7: i below", x.form(level, -1, 0), -1);
            due.same("7: j below", x.form(level, 0, -1), -1);
        }
    }

    /** The known product for the determinant of a CHARGED law, by its zeros. */
    private static int kac(int level, int c, int h) {
        long all = 1;
        for (int r = 1; r <= level; r++) {
            for (int s = 1; r * s <= level; s++) {
                int left = PARTITIONS[level - r * s].length;
                int next = r * s + r <= level ? PARTITIONS[level - r * s - r].length : 0;
                all = all * Due.power(Due.power(2L * r, s) * factorial(s), left - next) % 101;
                if (r <= s) {
                    all = all * Due.power(factor(r, s, c, h), left) % 101;
                }
            }
        }
        return (int) all;
    }

    private static long factor(int r, int s, long c, long h) {
        long by24 = inverse(24);
        if (r == s) {
            return Due.mod(h + (r * r - 1) * (c - 1) * by24);
        }
        long shift = (r * s - 1) * 51L;
        long one = Due.mod(h + (r * r - 1) * (c - 13) * by24 + shift);
        long other = Due.mod(h + (s * s - 1) * (c - 13) * by24 + shift);
        long gap = (long) (r * r - s * s) * (r * r - s * s);
        return Due.mod(one * other + gap * inverse(16));
    }

    private static long factorial(int s) {
        long all = 1;
        for (int i = 2; i <= s; i++) {
            all *= i;
        }
        return all;
    }

    private static long inverse(long x) {
        return Due.power(x, 99);
    }

    private static void promise8Determinant() {
        for (int c = 0; c <= 100; c += 4) {
            LevelLadders x = Due.withLaw(1, c, 0, 1);
            for (int h = 0; h <= 100; h += 7) {
                x.set(2, h);
                for (int level = 0; level <= 5; level++) {
                    due.same("8: c " + c + " h " + h + " determinant(" + level + ")", x.determinant(level), kac(level, c, h));
                }
            }
        }
        LevelLadders free = Due.withLaw(0, 77, 5, 9);
        for (int level = 0; level <= 5; level++) {
            due.same("8: FREE is without CHARGE", free.determinant(level), kac(level, 0, 5));
        }
        for (int level : FAR) {
            due.same("8: determinant(" + level + ")", free.determinant(level), -1);
        }
    }

    /** By turned signs and a shift of h a TURNED law has the DETERMINANTS of a CHARGED one. */
    private static void promise8DeterminantTurned() {
        for (int f = 0; f <= 100; f += 10) {
            LevelLadders x = Due.withLaw(2, 35, 0, f);
            for (int h = 0; h <= 100; h += 9) {
                x.set(2, h);
                for (int level = 0; level <= 5; level++) {
                    due.same("8: turned", x.determinant(level), kac(level, 35, Due.mod(51L * f - h)));
                }
            }
        }
        for (int kind = 3; kind <= 4; kind++) {
            LevelLadders x = Due.withLaw(kind, 3, 4, 11);
            for (int level = 0; level <= 5; level++) {
                long all = 1;
                for (int[] partition : PARTITIONS[level]) {
                    all = all * stringNorm(partition, 11 * (kind - 2)) % 101;
                }
                due.same("8: strings", x.determinant(level), all);
            }
        }
    }

    private static void promise9Rank() {
        LevelLadders x = Due.withLaw(1, 0, 0, 1);
        int[] ranks = {1, 0, 0, 0, 0, 0};
        for (int level = 0; level <= 5; level++) {
            due.same("9: c 0, h 0: rank(" + level + ")", x.rank(level), ranks[level]);
        }
        // All but 1 at the end are free of one another, where h alone is 0.
        x = Due.withLaw(1, 3, 0, 1);
        int[] withoutOne = {1, 0, 1, 1, 2, 2};
        for (int level = 0; level <= 5; level++) {
            due.same("9: h 0: rank(" + level + ")", x.rank(level), withoutOne[level]);
        }
        x = Due.withLaw(1, 3, 7, 1);
        for (int level = 0; level <= 5; level++) {
            due.same("9: all: rank(" + level + ")", x.rank(level), PARTITIONS[level].length);
        }
        x = Due.withLaw(3, 3, 7, 0);
        for (int level = 0; level <= 5; level++) {
            due.same("9: FIGURE 0: rank(" + level + ")", x.rank(level), level == 0 ? 1 : 0);
        }
        for (int level : FAR) {
            due.same("9: rank(" + level + ")", x.rank(level), -1);
        }
        // By c a half and h a sixteenth, LEVEL 2 holds one vector without FORM.
        x = Due.withLaw(1, 51, (int) inverse(16), 1);
        int[] ising = {1, 1, 1, 2, 2, 3};
        for (int level = 0; level <= 5; level++) {
            due.same("9: c by half: rank(" + level + ")", x.rank(level), ising[level]);
        }
    }

    private static void rowOfZeros(LevelLadders x, int level, int v, int[] wants, int many) {
        String call = "12: were(" + level + ", " + v + ", ";
        due.same(call + "-1)", x.were(level, v, -1), many);
        for (int i = 0; i < many; i++) {
            due.same(call + i + ")", x.were(level, v, i), wants[i]);
            if (v == 0) {
                due.same("10: zeros(" + level + ", " + i + ")", x.zeros(level, i), wants[i]);
            }
        }
        due.same(call + "behind)", x.were(level, v, many), -5);
        if (v == 0) {
            due.same("10: zeros(" + level + ", -1)", x.zeros(level, -1), many);
            due.same("10: zeros(" + level + ", behind)", x.zeros(level, many), -5);
        }
    }

    private static void promise10Zeros() {
        int[] charges = {0, 1, 26, 51, 100};
        for (int c : charges) {
            LevelLadders x = Due.withLaw(1, c, 7, 1);
            for (int level = 0; level <= 5; level++) {
                rowOfKac(x, level, 0, c);
            }
            due.same("10: the LAW stays", x.of(2), 7);
        }
        LevelLadders x = new LevelLadders();
        for (int level : FAR) {
            due.same("10: level " + level, x.zeros(level, 0), -1);
            due.same("10: level ahead of i", x.zeros(level, -2), -1);
        }
        for (int level = 0; level <= 5; level++) {
            due.same("10: i -2", x.zeros(level, -2), -5);
            due.same("10: i min", x.zeros(level, Integer.MIN_VALUE), -5);
            due.same("10: i max", x.zeros(level, Integer.MAX_VALUE), -5);
        }
        x = Due.withLaw(3, 0, 0, 0);
        due.same("10: FIGURE 0: all", x.zeros(2, -1), 101);
        due.same("10: FIGURE 0: last", x.zeros(2, 100), 100);
        x.set(3, 2);
        due.same("10: by the LAW as it is", x.zeros(2, -1), 0);
        x.set(0, 0);
        due.same("10: by the KIND as it is", x.zeros(1, -1), 1);
    }

    private static void rowOfKac(LevelLadders x, int level, int v, int c) {
        int[] wants = new int[101];
        int many = 0;
        for (int h = 0; h <= 100; h++) {
            if (kac(level, c, h) == v) {
                wants[many++] = h;
            }
        }
        rowOfZeros(x, level, v, wants, many);
    }

    private static void promise11Vanishing() {
        LevelLadders x = Due.withLaw(1, 26, 0, 1);
        for (int h = 0; h <= 100; h++) {
            x.set(2, h);
            int det = Due.mod(16L * h * h + 2L * h * (26 - 5) + 26);
            int free = h == 0 || det != 0 ? 0 : 1;
            // Where h is 0, L(-1) of the LOWEST one vanishes, and L(-2) has no part in 1, 1.
            due.same("11: h " + h + " vanishing(2, -1)", x.vanishing(2, -1), free);
            if (free == 1) {
                due.same("11: first", x.vanishing(2, 0), 1);
                due.same("11: second", x.vanishing(2, 1), Due.mod(-3 * inverse(Due.mod(4L * h + 2))));
                due.same("11: behind", x.vanishing(2, 2), -5);
            }
            due.same("11: h " + h + " vanishing(1, -1)", x.vanishing(1, -1), h == 0 ? 1 : 0);
            due.same("11: h " + h + " vanishing(1, 0)", x.vanishing(1, 0), h == 0 ? 1 : -5);
        }
        for (int level : FAR) {
            due.same("11: level " + level, x.vanishing(level, -1), -1);
            due.same("11: level ahead of i", x.vanishing(level, -2), -1);
        }
        due.same("11: LEVEL 0", x.vanishing(0, -1), 1);
        due.same("11: LEVEL 0, first", x.vanishing(0, 0), 1);
        for (int level = 0; level <= 5; level++) {
            due.same("11: i -2", x.vanishing(level, -2), -5);
            due.same("11: behind", x.vanishing(level, PARTITIONS[level].length), -5);
            due.same("11: far", x.vanishing(level, Integer.MAX_VALUE), -5);
        }
        // L(-1)^2 - 4/3 (h by c one) and its like one LEVEL on, told by hand: c 1, h 1/4 at LEVEL 2.
        x = Due.withLaw(1, 1, (int) inverse(4), 1);
        due.same("11: c 1, h by 4", x.vanishing(2, -1), 1);
        due.same("11: c 1, h by 4, second", x.vanishing(2, 1), 100);
    }

    private static void promise11VanishingOfStrings() {
        LevelLadders x = Due.withLaw(3, 0, 0, 0);
        for (int level = 0; level <= 5; level++) {
            int all = PARTITIONS[level].length;
            due.same("11: FIGURE 0, vanishing(" + level + ", -1)", x.vanishing(level, -1), all);
            due.same("11: FIGURE 0, vanishing(" + level + ", 0)", x.vanishing(level, 0), all == 1 ? 1 : -5);
        }
        x.set(3, 1);
        for (int level = 1; level <= 5; level++) {
            due.same("11: STRINGS, vanishing(" + level + ", -1)", x.vanishing(level, -1), 0);
            due.same("11: STRINGS, vanishing(" + level + ", 0)", x.vanishing(level, 0), -5);
        }
    }

    private static void promise12Were() {
        LevelLadders x = Due.withLaw(1, 26, 7, 1);
        for (int level = 0; level <= 5; level++) {
            for (int v = 0; v <= 100; v += 10) {
                rowOfKac(x, level, v, 26);
            }
            int[] beyond = {-1, 101, -101, Integer.MIN_VALUE, Integer.MAX_VALUE};
            for (int v : beyond) {
                due.same("12: v " + v, x.were(level, v, -1), 0);
                due.same("12: v " + v + ", first", x.were(level, v, 0), -5);
            }
            due.same("12: i -2", x.were(level, 1, -2), -5);
            due.same("12: i min", x.were(level, 1, Integer.MIN_VALUE), -5);
            due.same("12: i max", x.were(level, 1, Integer.MAX_VALUE), -5);
        }
        due.same("12: LEVEL 0 is 1 by all", x.were(0, 1, -1), 101);
        due.same("12: LEVEL 0, last", x.were(0, 1, 100), 100);
        due.same("12: LEVEL 0, behind", x.were(0, 1, 101), -5);
        for (int level : FAR) {
            due.same("12: level " + level, x.were(level, 0, 0), -1);
            due.same("12: level ahead of i", x.were(level, 999, -2), -1);
        }
        // Turned signs: the DETERMINANT of LEVEL 1 is f less two h.
        x = Due.withLaw(2, 26, 7, 9);
        due.same("12: turned", x.were(1, 1, 0), 4);
        x.set(3, 11);
        due.same("12: turned, by the FIGURE as it is", x.were(1, 1, 0), 5);
        due.same("12: turned, one alone", x.were(1, 1, -1), 1);
        x.set(1, 0);
        due.same("12: by the CHARGE as it is", x.were(5, x.determinant(5), -1) > 0 ? 1 : 0, 1);
    }

    /** Each number of the LAW changed alone, and all at once, between the same questions. */
    private static void toldByTheLawAsItIs() {
        int[][] laws = {
            {1, 26, 7, 5}, {2, 26, 7, 5}, {2, 31, 7, 5}, {2, 31, 8, 5}, {2, 31, 8, 6}, {1, 26, 7, 5}, {3, 9, 40, 11},
            {4, 9, 40, 11}, {4, 9, 40, 12}, {0, 0, 0, 1}, {0, 0, 50, 1}, {2, 99, 98, 97}, {1, 98, 97, 96},
        };
        for (int level = 0; level <= 5; level++) {
            LevelLadders x = new LevelLadders();
            for (int[] law : laws) {
                for (int what = 0; what < 4; what++) {
                    x.set(what, law[what]);
                }
                sameByBoth(x, Due.withLaw(law[0], law[1], law[2], law[3]), level);
            }
        }
    }

    private static void sameByBoth(LevelLadders x, LevelLadders y, int level) {
        String call = "8 to 12, by the LAW as it is, LEVEL " + level;
        int v = x.determinant(level);
        due.same(call, v, y.determinant(level));
        due.same(call, x.were(level, v, -1), y.were(level, v, -1));
        due.same(call, x.were(level, v, 0), y.were(level, v, 0));
        due.same(call, x.zeros(level, 0), y.zeros(level, 0));
        due.same(call, x.rank(level), y.rank(level));
        due.same(call, x.vanishing(level, -1), y.vanishing(level, -1));
        due.same(call, x.act(0, level, 0, 0), y.act(0, level, 0, 0));
        due.same(call, x.form(level, 0, 0), y.form(level, 0, 0));
    }
}
