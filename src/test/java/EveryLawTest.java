/**
 * Promises 6 to 12, "told by the LAW as it is when it is asked": by every WEIGHT as the model answers, and by each
 * number of the LAW run through on one object as a new object answers.
 */
public final class EveryLawTest {
    private static final Due due = new Due();
    private static final int[][] LAWS = {{0, 0, 0, 1}, {1, 26, 0, 1}, {1, 51, 0, 1}, {1, 63, 0, 1}, {1, 0, 0, 1}, {2, 26, 0, 9},
        {2, 100, 0, 100}, {3, 0, 0, 7}, {4, 5, 0, 99}, {3, 0, 0, 0}};
    private static final int[] MOST = {4, 100, 100, 100};

    public static void main(String[] args) {
        for (int[] law : LAWS) {
            byEveryWeight(law);
        }
        formsBothWays();
        for (int level = 0; level <= 5; level++) {
            for (int what = 0; what <= 3; what++) {
                runThrough(level, what, 2, 26, 7, 9);
                runThrough(level, what, 1, 3, 11, 2);
            }
            kindsInTurn(level);
        }
        levelsInTurn();
        due.end("EveryLawTest");
    }

    private static void byEveryWeight(int[] law) {
        Model y = new Model();
        for (int h = 0; h <= 100; h++) {
            LevelLadders x = Due.withLaw(law[0], law[1], h, law[3]);
            y = new Model();
            for (int what = 0; what < 4; what++) {
                y.set(what, what == 2 ? h : law[what]);
            }
            for (int level = 0; level <= 5; level++) {
                asTheModel(x, y, level, "by KIND " + law[0] + ", " + law[1] + ", " + h + ", " + law[3] + ", LEVEL " + level);
            }
        }
        for (int level = 0; level <= 5; level++) {
            byEveryDeterminant(Due.withLaw(law[0], law[1], law[2], law[3]), y, level);
        }
    }

    /** All WERE of a LEVEL and all its ZEROS: at most 512 calls of one object. */
    private static void byEveryDeterminant(LevelLadders x, Model y, int level) {
        for (int v = -1; v <= 101; v++) {
            int many = y.were(level, v, -1);
            due.same("12: how many of " + level + " by " + v, x.were(level, v, -1), many);
            for (int i = 0; i <= many + 1 && many > 0; i++) {
                due.same("12: were(" + level + ", " + v + ", " + i + ")", x.were(level, v, i), y.were(level, v, i));
            }
        }
        for (int i = -1; i <= y.zeros(level, -1) + 2; i++) {
            due.same("10: zeros(" + level + ", " + i + ")", x.zeros(level, i), y.zeros(level, i));
        }
    }

    private static void asTheModel(LevelLadders x, Model y, int level, String call) {
        due.same("8: " + call, x.determinant(level), y.determinant(level));
        due.same("9: " + call, x.rank(level), y.rank(level));
        for (int i = -1; i < Due.sizeOf(level); i++) {
            due.same("11: " + call + ", i " + i, x.vanishing(level, i), y.vanishing(level, i));
        }
        for (int i = 0; i < Due.sizeOf(level); i++) {
            due.same("7: " + call + ", i " + i, x.form(level, i, 0), y.form(level, i, 0));
            due.same("6: " + call + ", i " + i, x.act(level, level, i, 0), y.act(level, level, i, 0));
        }
    }

    /** Which of two BASIS VECTORS is the one and which the other does not matter, by any LAW. */
    private static void formsBothWays() {
        for (int kind = 0; kind <= 4; kind++) {
            LevelLadders x = Due.withLaw(kind, 31, 47, 59);
            for (int level = 0; level <= 5; level++) {
                for (int i = 0; i < Due.sizeOf(level); i++) {
                    for (int j = 0; j < i; j++) {
                        due.same("7: both ways by KIND " + kind, x.form(level, i, j), x.form(level, j, i));
                    }
                }
            }
        }
    }

    /** What depends on the LAW, by four calls. */
    private static void alike(LevelLadders x, LevelLadders y, int level, String call) {
        int last = Due.sizeOf(level) - 1;
        due.same("12: " + call, x.were(level, 1, -1), y.were(level, 1, -1));
        due.same("10: " + call, x.zeros(level, 0), y.zeros(level, 0));
        due.same("8: " + call, x.determinant(level), y.determinant(level));
        due.same("6: " + call, x.act(level, level, last, 0), y.act(level, level, last, 0));
    }

    /** By at most 509 calls of one object. */
    private static void runThrough(int level, int what, int... law) {
        LevelLadders x = Due.withLaw(law[0], law[1], law[2], law[3]);
        for (int v = 0; v <= MOST[what]; v++) {
            law[what] = v;
            x.set(what, v);
            LevelLadders y = Due.withLaw(law[0], law[1], law[2], law[3]);
            alike(x, y, level, "LEVEL " + level + ", set(" + what + ", " + v + ")");
        }
    }

    private static void kindsInTurn(int level) {
        for (int c = 0; c <= 4; c++) {
            LevelLadders x = Due.withLaw(0, c, 60, 7);
            for (int kind = 0; kind <= 4; kind++) {
                for (int other = 0; other <= 4; other++) {
                    x.set(0, kind);
                    alike(x, Due.withLaw(kind, c, 60, 7), level, "KIND " + kind);
                    x.set(0, other);
                    alike(x, Due.withLaw(other, c, 60, 7), level, "KIND " + other + " behind " + kind);
                }
            }
        }
    }

    /** Two LEVELS by two LAWS, asked in each order, with the same LAW again between them. */
    private static void levelsInTurn() {
        int[][] orders = {{0, 0, 1, 1}, {0, 1, 0, 1}, {0, 1, 1, 0}, {1, 0, 0, 1}};
        for (int one = 0; one <= 5; one++) {
            for (int other = 0; other <= 5; other++) {
                LevelLadders x = new LevelLadders();
                for (int[] order : orders) {
                    for (int turn = 0; turn < 4; turn++) {
                        int level = turn % 2 == 0 ? one : other;
                        int charge = order[turn] == 0 ? 26 : 31;
                        x.set(0, 1);
                        x.set(1, charge);
                        x.set(2, 9);
                        LevelLadders y = Due.withLaw(1, charge, 9, 1);
                        String call = "LEVELS " + one + " and " + other;
                        due.same("9: " + call, x.rank(level), y.rank(level));
                        alike(x, y, level, call);
                        due.same("11: " + call, x.vanishing(level, -1), y.vanishing(level, -1));
                    }
                }
            }
        }
    }
}
