/** Promises 23 to 27: odds, plan, behind, write, paper. */
public final class DrawsTest {
    private static final Due due = new Due();
    private static final int[] FAR = {-1, 4, Integer.MIN_VALUE, Integer.MAX_VALUE};

    public static void main(String[] args) {
        promise23OddsByHand();
        promise23OddsByRaise();
        promise23OddsWrong();
        promise24Plan();
        promise24PlanWrong();
        promise25Behind();
        promise25BehindVectors();
        promise25BehindWrong();
        promise26Write();
        promise26WriteAndRead();
        promise27Paper();
        due.end("DrawsTest");
    }

    /** SEED 0 draws z 12345 first: its MODE is 0 % 5 less 2. */
    private static void promise23OddsByHand() {
        LevelLadders x = Due.withLaw(1, 26, 7, 1);
        due.same("23: L(-2) first", x.odds(1, 0, 1, 0), 0);
        due.same("23: 0 by 1", x.odds(1, 0, 1, 1), 1);
        int[] seeds = {0, 1, 2, 5, 7, 100, -1, -77, Integer.MAX_VALUE, Integer.MIN_VALUE, 123456789};
        for (int seed : seeds) {
            for (int m = 1; m <= 30; m += 29) {
                int below = 0;
                for (int s = 0; s < m; s++) {
                    int z = (seed + s) * 1103515245 + 12345;
                    below += (z >>> 16) % 5 > 2 ? 1 : 0;
                }
                oddsAre(x, 1, seed, m, below);
            }
        }
    }

    private static void oddsAre(LevelLadders x, int n, int seed, int m, int ended) {
        int by = 1;
        for (int d = 2; d <= m; d++) {
            by = ended % d == 0 && m % d == 0 ? d : by;
        }
        String call = "23: odds(" + n + ", " + seed + ", " + m + ", ";
        due.same(call + "0)", x.odds(n, seed, m, 0), ended / by);
        due.same(call + "1)", x.odds(n, seed, m, 1), m / by);
    }

    private static void promise23OddsByRaise() {
        int[][] laws = {{0, 0, 0, 1}, {1, 0, 0, 1}, {1, 26, 7, 1}, {2, 3, 50, 100}, {3, 0, 0, 0}, {3, 9, 5, 1}, {4, 9, 0, 2}};
        int[] seeds = {7, -12345, Integer.MAX_VALUE - 3, 99991};
        for (int[] law : laws) {
            for (int seed : seeds) {
                for (int n = 1; n <= 9; n++) {
                    LevelLadders x = Due.withLaw(law[0], law[1], law[2], law[3]);
                    int ended = 0;
                    for (int s = 0; s < 30; s++) {
                        ended += drawnEndsAsZero(x, n, seed + s) ? 1 : 0;
                        if (s == 0 || s == 11 || s == 29) {
                            oddsAre(x, n, seed, s + 1, ended);
                        }
                    }
                }
            }
        }
    }

    private static boolean drawnEndsAsZero(LevelLadders x, int n, int seed) {
        x.become(0, 0, 0);
        int z = seed;
        for (int i = 0; i < n; i++) {
            z = z * 1103515245 + 12345;
            int mode = (z >>> 16) % 5 - 2;
            if (x.level(0) - mode < 0) {
                return true;
            }
            x.raise(0, mode);
        }
        return x.count(0) == 0;
    }

    private static void promise23OddsWrong() {
        LevelLadders x = new LevelLadders();
        int[] numbers = {0, -1, 10, Integer.MIN_VALUE, Integer.MAX_VALUE};
        for (int n : numbers) {
            due.same("23: n " + n, x.odds(n, 7, 30, 0), Long.MIN_VALUE);
        }
        int[] many = {0, -1, 31, Integer.MIN_VALUE, Integer.MAX_VALUE};
        for (int m : many) {
            due.same("23: m " + m, x.odds(3, 7, m, 0), Long.MIN_VALUE);
        }
        int[] parts = {-1, 2, Integer.MIN_VALUE, Integer.MAX_VALUE};
        for (int part : parts) {
            due.same("23: part " + part, x.odds(3, 7, 30, part), Long.MIN_VALUE);
        }
        due.same("23: all in order", x.odds(9, 7, 1, 1), 1);
        due.same("23: vectors stay", x.count(0) + x.level(0), 0);
    }

    private static void promise24Plan() {
        LevelLadders x = new LevelLadders();
        due.same("24: L(-5)", x.plan(0, -5), 1);
        due.same("24: L(5)", x.plan(0, 5), 2);
        due.same("24: no times", x.plan(1, 0), 3);
        due.same("24: 100 times", x.plan(1, 100), 4);
        due.same("24: VECTOR 0", x.plan(2, 0), 5);
        due.same("24: VECTOR 3", x.plan(2, 3), 6);
        due.same("24: 7th", x.plan(1, 1), 7);
        due.same("24: 8th", x.plan(1, 1), 8);
        due.same("24: 9th", x.plan(1, 1), -4);
        due.same("24: BAD ahead of FULL", x.plan(1, 101), -2);
        due.same("24: NONE ahead of FULL", x.plan(3, 0), -1);
        due.same("24: eight", x.count(3), 8);
        due.same("24: empty", x.plan(-1, 999), 0);
        due.same("24: empty it is", x.count(3), 0);
        due.same("24: empty again", x.plan(-1, Integer.MIN_VALUE), 0);
        due.same("24: anew", x.plan(0, 0), 1);
    }

    private static void promise24PlanWrong() {
        LevelLadders x = new LevelLadders();
        int[] whats = {-2, 3, Integer.MIN_VALUE, Integer.MAX_VALUE};
        for (int what : whats) {
            due.same("24: what " + what, x.plan(what, 0), -1);
            due.same("24: NONE ahead of BAD", x.plan(what, -999), -1);
        }
        int[][] bad = {{-6, 6}, {-1, 101}, {-1, 4}};
        for (int what = 0; what < 3; what++) {
            for (int v : bad[what]) {
                due.same("24: plan(" + what + ", " + v + ")", x.plan(what, v), -2);
            }
            due.same("24: far", x.plan(what, Integer.MAX_VALUE), -2);
            due.same("24: far below", x.plan(what, Integer.MIN_VALUE), -2);
        }
        due.same("24: none came", x.count(3), 0);
    }

    private static void behindIs(LevelLadders x, int vector, int level, long... wants) {
        due.same("25: behind(" + vector + ", -1)", x.behind(vector, -1), level);
        for (int i = 0; i < wants.length; i++) {
            due.same("25: behind(" + vector + ", " + i + ")", x.behind(vector, i), wants[i]);
        }
        due.same("25: behind(" + vector + ", behind)", x.behind(vector, wants.length), -5);
        due.same("25: behind(" + vector + ", -2)", x.behind(vector, -2), -5);
    }

    private static void promise25Behind() {
        LevelLadders x = Due.withLaw(1, 26, 7, 1);
        x.become(1, 2, 1);
        x.put(1, 0, 40);
        behindIs(x, 1, 2, 40, 1);
        x.plan(0, -2);
        behindIs(x, 1, 4, 0, 0, 40, 1, 0);
        x.plan(1, 3);
        behindIs(x, 1, 4, 0, 0, 19, 3, 0);
        x.plan(0, -2);
        behindIs(x, 1, 4, 0, 0, 19, 3, 0);
        x.plan(0, -1);
        behindIs(x, 1, 5, 19, 0, 38, 3, 19, 3, 0);
        x.plan(0, 0);
        behindIs(x, 1, 5, 26, 0, 52, 36, 26, 36, 0);
        x.set(2, 8);
        behindIs(x, 1, 5, 45, 0, 90, 39, 45, 39, 0);
        due.row("25: in thought alone", Due.coordinates(x, 1), 40, 1);
        // VECTOR 0 is 0 and stays so, but its LEVEL goes along.
        behindIs(x, 0, 5, 0, 0, 0, 0, 0, 0, 0);
        x.plan(-1, 0);
        x.plan(0, 3);
        behindIs(x, 1, 0, 0);
        x.plan(0, -2);
        behindIs(x, 1, 2, 0, 0);
        x.plan(2, 1);
        behindIs(x, 1, 2, 40, 1);
        x.plan(0, 2);
        behindIs(x, 1, 0, (40 * 45 + 48) % 101);
        x.plan(0, 1);
        behindIs(x, 1, 0, 0);
        x.plan(1, 5);
        behindIs(x, 1, 0, 0);
    }

    private static void promise25BehindVectors() {
        LevelLadders x = new LevelLadders();
        x.become(0, 1, 0);
        x.become(1, 1, 0);
        x.put(1, 0, 60);
        x.become(2, 2, 1);
        x.plan(2, 1);
        x.plan(2, 1);
        behindIs(x, 0, 1, 20);
        behindIs(x, 1, 1, 79);
        x.plan(2, 2);
        behindIs(x, 0, 1, 20);
        behindIs(x, 2, 2, 0, 2);
        x.plan(0, -1);
        x.plan(2, 2);
        behindIs(x, 0, 2, 0, 21);
        x.plan(1, 0);
        behindIs(x, 0, 2, 0, 0);
        x.plan(-1, 0);
        x.plan(1, 2);
        x.plan(2, 0);
        // VECTOR 0 is added as it is in truth, not as it is in thought.
        behindIs(x, 0, 1, 3);
        x.put(0, 0, 10);
        behindIs(x, 0, 1, 30);
    }

    private static void promise25BehindWrong() {
        LevelLadders x = new LevelLadders();
        for (int vector : FAR) {
            due.same("25: vector " + vector, x.behind(vector, -1), -1);
            due.same("25: NONE ahead of NOT", x.behind(vector, -2), -1);
        }
        behindIs(x, 0, 0, 0);
        due.same("25: far", x.behind(0, Integer.MAX_VALUE), -5);
        due.same("25: far below", x.behind(0, Integer.MIN_VALUE), -5);
        x.plan(0, -5);
        behindIs(x, 0, 5, 0, 0, 0, 0, 0, 0, 0);
    }

    private static void writtenIs(LevelLadders x, int vector, String want) {
        String text = Due.written(x, vector);
        due.same("26: " + want + ", but " + text, text.equals(want) ? 1 : 0, 1);
        due.same("26: bytes", x.count(2), want.length());
    }

    private static void promise26Write() {
        LevelLadders x = new LevelLadders();
        writtenIs(x, 0, "");
        x.become(0, 0, 0);
        writtenIs(x, 0, "[]");
        x.put(0, 0, 2);
        writtenIs(x, 0, "2[]");
        x.put(0, 0, 100);
        writtenIs(x, 0, "100[]");
        x.become(1, 4, 2);
        x.put(1, 0, 10);
        x.put(1, 4, 99);
        writtenIs(x, 1, "10[-4]+[-2 -2]+99[-1 -1 -1 -1]");
        x.become(2, 5, 0);
        for (int i = 0; i < 7; i++) {
            x.put(2, i, 100);
        }
        writtenIs(x, 2, "100[-5]+100[-4 -1]+100[-3 -2]+100[-3 -1 -1]+100[-2 -2 -1]+100[-2 -1 -1 -1]+100[-1 -1 -1 -1 -1]");
        for (int vector : FAR) {
            due.same("26: vector " + vector, x.write(vector), -1);
        }
        due.same("26: THE PAPER stays", x.count(2), 94);
        writtenIs(x, 3, "");
        x.become(3, 3, 1);
        x.put(3, 1, 0);
        x.put(3, 2, 1);
        writtenIs(x, 3, "[-1 -1 -1]");
        x.put(3, 2, 11);
        x.put(3, 0, 9);
        writtenIs(x, 3, "9[-3]+11[-1 -1 -1]");
    }

    private static void promise26WriteAndRead() {
        for (int level = 0; level <= 5; level++) {
            for (int i = 0; i < Due.sizeOf(level); i++) {
                LevelLadders x = new LevelLadders();
                x.become(0, level, i);
                x.put(0, i, 5 + 13 * i);
                x.put(0, 0, 1);
                String text = Due.written(x, 0);
                due.same("26: LEVEL of " + text, Due.read(x, 1, text), level);
                due.row("26: " + text, Due.coordinates(x, 1), Due.coordinates(x, 0));
            }
        }
    }

    private static void promise27Paper() {
        LevelLadders x = new LevelLadders();
        due.same("27: nothing at first", x.paper(0), -1);
        x.become(0, 2, 1);
        x.put(0, 1, 35);
        x.write(0);
        String want = "35[-1 -1]";
        for (int i = 0; i < want.length(); i++) {
            due.same("27: paper(" + i + ")", x.paper(i), want.charAt(i));
        }
        due.same("27: behind", x.paper(want.length()), -1);
        due.same("27: below", x.paper(-1), -1);
        due.same("27: far", x.paper(Integer.MAX_VALUE), -1);
        due.same("27: far below", x.paper(Integer.MIN_VALUE), -1);
        x.put(0, 1, 1);
        due.same("27: as it was written", x.paper(0), '3');
        x.write(4);
        due.same("27: stays", x.paper(8), ']');
        x.write(0);
        due.same("27: the latest", x.paper(0), '[');
        due.same("27: no longer", x.paper(7), -1);
        x.write(1);
        due.same("27: nothing", x.paper(0), -1);
    }
}
