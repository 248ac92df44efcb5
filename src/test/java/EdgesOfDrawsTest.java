import java.math.BigInteger;

/** Boundary cases of promises 23 to 27, a test for each sentence that names one. */
public final class EdgesOfDrawsTest {
    private static final Due due = new Due();
    private static final int[] NO_VECTOR = Due.beside(0, 3);

    public static void main(String[] args) {
        promise23LeastAndGreatest();
        promise23LowestTerms();
        promise23SeedsGoRound();
        promise23DrawnIsAnInt();
        promise23AboveLevelFiveIsLeftOut();
        promise23LevelFiveIsNotLeftOut();
        promise23BelowLevelNoughtIsNought();
        promise23LevelNoughtIsNotBelow();
        promise24EightRows();
        promise24Emptied();
        promise24Numbers();
        promise24OrderOfAnswers();
        promise25NoRows();
        promise25AboveLevelFiveIsLeftOut();
        promise25BelowLevelNoughtIsNought();
        promise25Times();
        promise25AllCoordinates();
        promise25VectorsAreAddedAsInTruth();
        promise25Places();
        promise26Nothing();
        promise26Numbers();
        promise26Longest();
        promise26NoSuchVector();
        promise27Places();
        due.end("EdgesOfDrawsTest");
    }

    private static void oddsAre(LevelLadders x, int n, int seed, int m, int above, int below) {
        String call = "23: odds(" + n + ", " + seed + ", " + m + ", ";
        due.same(call + "0)", x.odds(n, seed, m, 0), above);
        due.same(call + "1)", x.odds(n, seed, m, 1), below);
    }

    private static LevelLadders charged() {
        return Due.withLaw(1, 26, 7, 1);
    }

    private static void promise23LeastAndGreatest() {
        LevelLadders x = charged();
        for (int part = 0; part <= 1; part++) {
            int its = part;
            due.each("23: n", Due.beside(1, 9), Long.MIN_VALUE, n -> x.odds(n, 7, 30, its));
            due.each("23: m", Due.beside(1, 30), Long.MIN_VALUE, m -> x.odds(3, 7, m, its));
        }
        due.each("23: part", Due.beside(0, 1), Long.MIN_VALUE, part -> x.odds(3, 7, 30, part));
        due.each("23: part of the least", Due.beside(0, 1), Long.MIN_VALUE, part -> x.odds(1, 0, 1, part));
        // The first MODE by SEED 0 is -2, by SEED 1 it is 1.
        oddsAre(x, 1, 0, 1, 0, 1);
        oddsAre(x, 1, 1, 1, 1, 1);
        oddsAre(x, 9, 1, 1, 1, 1);
        oddsOfOneMode(x, 0, 30);
        due.same("23: nine MODES of thirty SEEDS", x.odds(9, 0, 30, 1) > 0 ? 1 : 0, 1);
    }

    /** By one MODE it ends as 0 where that is above 0 (and h is not 0). */
    private static void oddsOfOneMode(LevelLadders x, int seed, int m) {
        int ended = 0;
        for (int s = 0; s < m; s++) {
            ended += mode(seed + s, 1) > 0 ? 1 : 0;
        }
        int by = BigInteger.valueOf(ended).gcd(BigInteger.valueOf(m)).intValue();
        oddsAre(x, 1, seed, m, ended / by, m / by);
    }

    /** The n-th MODE, worked out in longs. */
    private static int mode(int seed, int n) {
        long z = seed;
        for (int i = 0; i < n; i++) {
            z = (z * 1103515245L + 12345L) & 0xFFFFFFFFL;
        }
        return (int) ((z >> 16) % 5) - 2;
    }

    private static void promise23LowestTerms() {
        // First MODES by SEEDS 0 .. 7: -2, 1, -1, -2, 0, -2, 2, 0.
        LevelLadders x = charged();
        oddsAre(x, 1, 2, 4, 0, 1);
        oddsAre(x, 1, 0, 2, 1, 2);
        oddsAre(x, 1, 0, 6, 1, 6);
        oddsAre(x, 1, 0, 8, 1, 4);
        oddsAre(x, 1, 1, 6, 1, 3);
        oddsAre(x, 1, 6, 1, 1, 1);
        oddsAre(x, 1, 5, 3, 1, 3);
        oddsAre(x, 3, 7, 30, 8, 15);
    }

    private static void promise23SeedsGoRound() {
        // First MODES: 0 by the greatest int less 1, 2 by the greatest, 1 by the least, -1 by the next.
        LevelLadders x = charged();
        oddsAre(x, 1, Integer.MAX_VALUE - 1, 1, 0, 1);
        oddsAre(x, 1, Integer.MAX_VALUE, 1, 1, 1);
        oddsAre(x, 1, Integer.MIN_VALUE, 1, 1, 1);
        oddsAre(x, 1, Integer.MIN_VALUE + 1, 1, 0, 1);
        oddsAre(x, 1, Integer.MAX_VALUE, 2, 1, 1);
        oddsAre(x, 1, Integer.MAX_VALUE, 3, 2, 3);
        oddsAre(x, 1, Integer.MAX_VALUE - 1, 4, 1, 2);
        oddsAre(x, 1, Integer.MAX_VALUE - 1, 3, 2, 3);
        for (int m = 1; m <= 30; m++) {
            oddsOfOneMode(x, Integer.MAX_VALUE - 15, m);
        }
        // From -1 to 0 nothing goes round: first MODES 0 and -2.
        oddsAre(x, 1, -1, 2, 0, 1);
    }

    /** MODES of a z below 0 are -2 .. 2, too: where the first is above 0, and where it is not. */
    private static void promise23DrawnIsAnInt() {
        LevelLadders x = charged();
        for (int seed = -200; seed <= 200; seed += 2) {
            due.same("23: odds(1, " + seed + ", 1, 0)", x.odds(1, seed, 1, 0), mode(seed, 1) > 0 ? 1 : 0);
        }
        LevelLadders y = Due.withLaw(3, 0, 50, 1);
        for (int seed = -100; seed <= 100; seed++) {
            due.same("23: odds(2, " + seed + ", 1, 0)", y.odds(2, seed, 1, 0), stringsEnd(seed));
        }
    }

    /** Two MODES by STRINGS where h is not 0: 0 where one goes below, or a CENTRE or SLOPE has no part. */
    private static int stringsEnd(int seed) {
        int one = mode(seed, 1);
        int two = mode(seed, 2);
        if (one > 0 || one + two > 0) {
            return 1;
        }
        return two > 0 && one != -two ? 1 : 0;
    }

    private static void promise23AboveLevelFiveIsLeftOut() {
        LevelLadders x = charged();
        // SEED 190: -2, -2, and a third -2, which is left out.
        int[] modes = {-2, -2, -2};
        for (int i = 0; i < 3; i++) {
            due.same("23: MODE " + i + " of SEED 190", mode(190, i + 1), modes[i]);
        }
        oddsAre(x, 3, 190, 1, 0, 1);
        // SEED 5: -2, -2, -1, 0, and -1 from LEVEL 5, which is left out; then 0, 2.
        due.same("23: MODE of SEED 5", mode(5, 5), -1);
        oddsAre(x, 5, 5, 1, 0, 1);
        oddsAre(x, 7, 5, 1, 0, 1);
    }

    private static void promise23LevelFiveIsNotLeftOut() {
        LevelLadders x = charged();
        // SEED 705: -2, -2, -1 to LEVEL 5, then 2, 2, 1 to LEVEL 0. Were LEVEL 5 left out, it would go below.
        int[] modes = {-2, -2, -1, 2, 2, 1};
        for (int i = 0; i < 6; i++) {
            due.same("23: MODE " + i + " of SEED 705", mode(705, i + 1), modes[i]);
        }
        oddsAre(x, 6, 705, 1, 0, 1);
        oddsAre(x, 5, 4134, 1, 0, 1);
    }

    private static void promise23BelowLevelNoughtIsNought() {
        LevelLadders x = charged();
        // By the greatest int 2 is first, and -2 comes third: it stays 0.
        due.same("23: the third", mode(Integer.MAX_VALUE, 3), -2);
        for (int n = 1; n <= 9; n++) {
            oddsAre(x, n, Integer.MAX_VALUE, 1, 1, 1);
        }
        // By SEED 3 it ends at LEVEL 4 behind eight, by SEED 7 0, -1, 1, 2 go below behind four.
        oddsAre(x, 8, 3, 1, 0, 1);
        oddsAre(x, 3, 7, 1, 0, 1);
        oddsAre(x, 4, 7, 1, 1, 1);
        oddsAre(x, 9, 7, 1, 1, 1);
    }

    private static void promise23LevelNoughtIsNotBelow() {
        // SEED 7: 0, -1, 1: at LEVEL 0 there is twice h, times h.
        oddsAre(charged(), 3, 7, 1, 0, 1);
        oddsAre(Due.withLaw(1, 26, 0, 1), 3, 7, 1, 1, 1);
        // MODE 0 by h 0 makes 0 of the LOWEST one.
        oddsAre(Due.withLaw(1, 26, 0, 1), 1, 7, 1, 1, 1);
        oddsAre(charged(), 1, 7, 1, 0, 1);
    }

    private static void promise24EightRows() {
        LevelLadders x = new LevelLadders();
        for (int row = 1; row <= 8; row++) {
            due.same("24: ROW " + row, x.plan(row % 3, row % 3), row);
            due.same("24: so many", x.count(3), row);
        }
        for (int what = 0; what <= 2; what++) {
            due.same("24: one more, what " + what, x.plan(what, 0), -4);
        }
        due.same("24: eight", x.count(3), 8);
    }

    private static void promise24Emptied() {
        for (int v : new int[] {Integer.MIN_VALUE, -1, 0, 101, Integer.MAX_VALUE}) {
            LevelLadders x = new LevelLadders();
            due.same("24: emptied when empty", x.plan(-1, v), 0);
            for (int row = 1; row <= 8; row++) {
                x.plan(0, -5);
            }
            due.same("24: LEVEL behind them", x.behind(0, -1), 5);
            due.same("24: emptied when full", x.plan(-1, v), 0);
            due.same("24: none", x.count(3), 0);
            due.same("24: LEVEL behind none", x.behind(0, -1), 0);
            due.same("24: the first again", x.plan(0, -1), 1);
            due.same("24: LEVEL behind it", x.behind(0, -1), 1);
        }
    }

    private static void promise24Numbers() {
        int[][] bounds = {{-5, 5}, {0, 100}, {0, 3}};
        for (int what = 0; what <= 2; what++) {
            LevelLadders x = new LevelLadders();
            int its = what;
            due.same("24: least by " + its, x.plan(its, bounds[its][0]), 1);
            due.same("24: greatest by " + its, x.plan(its, bounds[its][1]), 2);
            due.each("24: v by " + its, Due.beside(bounds[its][0], bounds[its][1]), -2, v -> x.plan(its, v));
            due.same("24: two by " + its, x.count(3), 2);
        }
    }

    private static void promise24OrderOfAnswers() {
        LevelLadders x = new LevelLadders();
        due.each("24: what", Due.beside(-1, 2), -1, what -> x.plan(what, 0));
        due.each("24: what ahead of v", Due.beside(-1, 2), -1, what -> x.plan(what, 999));
        for (int row = 0; row < 8; row++) {
            x.plan(1, 1);
        }
        due.each("24: what ahead of FULL", Due.beside(-1, 2), -1, what -> x.plan(what, 0));
        due.each("24: v ahead of FULL", Due.beside(0, 100), -2, v -> x.plan(1, v));
        due.same("24: FULL", x.plan(1, 100), -4);
    }

    private static void behindIs(LevelLadders x, int vector, int level, long... wants) {
        due.same("25: LEVEL behind", x.behind(vector, -1), level);
        for (int i = 0; i < wants.length; i++) {
            due.same("25: behind(" + vector + ", " + i + ")", x.behind(vector, i), wants[i]);
        }
        due.each("25: i", Due.beside(-1, wants.length - 1), -5, i -> x.behind(vector, i));
    }

    private static void promise25NoRows() {
        LevelLadders x = new LevelLadders();
        x.become(3, 5, 6);
        behindIs(x, 0, 0, 0);
        behindIs(x, 3, 5, 0, 0, 0, 0, 0, 0, 1);
    }

    private static void promise25AboveLevelFiveIsLeftOut() {
        for (int level = 0; level <= 5; level++) {
            LevelLadders x = new LevelLadders();
            x.become(0, level, 0);
            x.put(0, 0, 9);
            if (level > 0) {
                x.plan(0, level - 6);
                due.same("25: to LEVEL 6: left out", x.behind(0, -1), level);
                due.same("25: nothing done", x.behind(0, 0), 9);
            }
            x.plan(0, level - 5);
            due.same("25: to LEVEL 5", x.behind(0, -1), 5);
            x.plan(0, -1);
            x.plan(0, -5);
            due.same("25: from LEVEL 5: left out", x.behind(0, -1), 5);
        }
        LevelLadders x = new LevelLadders();
        x.plan(0, -5);
        x.plan(0, -1);
        behindIs(x, 1, 5, 0, 0, 0, 0, 0, 0, 0);
    }

    private static void promise25BelowLevelNoughtIsNought() {
        for (int level = 0; level <= 4; level++) {
            LevelLadders x = Due.withLaw(3, 0, 1, 1);
            x.become(0, level, 0);
            x.plan(0, level);
            behindIs(x, 0, 0, Math.max(1, level));
            x.plan(-1, 0);
            x.plan(0, level + 1);
            behindIs(x, 0, 0, 0);
            x.plan(0, -2);
            behindIs(x, 0, 2, 0, 0);
            due.same("25: in thought alone", x.level(0), level);
        }
        LevelLadders x = new LevelLadders();
        x.become(1, 4, 2);
        x.become(2, 0, 0);
        x.plan(0, 5);
        x.plan(2, 2);
        behindIs(x, 1, 0, 1);
    }

    private static void promise25Times() {
        LevelLadders x = new LevelLadders();
        x.become(0, 2, 0);
        x.put(0, 1, 100);
        x.plan(1, 1);
        behindIs(x, 0, 2, 1, 100);
        x.plan(1, 100);
        behindIs(x, 0, 2, 100, 1);
        x.plan(2, 0);
        behindIs(x, 0, 2, 0, 0);
        x.plan(-1, 0);
        x.plan(1, 0);
        behindIs(x, 0, 2, 0, 0);
        x.plan(0, -1);
        behindIs(x, 0, 3, 0, 0, 0);
    }

    /** Each kind of ROW goes to all COORDINATES of each LEVEL, the last too. */
    private static void promise25AllCoordinates() {
        for (int level = 0; level <= 5; level++) {
            int size = Due.sizeOf(level);
            long[] times = new long[size];
            long[] added = new long[size];
            long[] done = new long[size];
            LevelLadders x = Due.withLaw(3, 0, 60, 1);
            x.become(1, level, 0);
            x.become(2, level, 0);
            for (int i = 0; i < size; i++) {
                x.put(1, i, 10 + i);
                x.put(2, i, 100 - i);
                times[i] = (10 + i) * 7;
                added[i] = times[i] - 1 - i;
                done[i] = added[i] * 60;
            }
            x.plan(1, 7);
            behindIs(x, 1, level, modulo(times));
            x.plan(2, 2);
            behindIs(x, 1, level, modulo(added));
            x.plan(0, 0);
            behindIs(x, 1, level, modulo(done));
        }
    }

    private static long[] modulo(long[] numbers) {
        long[] all = new long[numbers.length];
        for (int i = 0; i < all.length; i++) {
            all[i] = Due.mod(numbers[i]);
        }
        return all;
    }

    private static void promise25VectorsAreAddedAsInTruth() {
        LevelLadders x = new LevelLadders();
        x.become(0, 1, 0);
        x.become(3, 2, 1);
        x.plan(2, 3);
        behindIs(x, 0, 1, 1);
        behindIs(x, 3, 2, 0, 2);
        x.plan(0, -1);
        x.plan(2, 3);
        behindIs(x, 0, 2, 0, 2);
        x.put(3, 0, 100);
        behindIs(x, 0, 2, 100, 2);
        x.plan(2, 0);
        behindIs(x, 0, 2, 100, 2);
        behindIs(x, 1, 1, 1);
    }

    private static void promise25Places() {
        LevelLadders x = new LevelLadders();
        for (int level = 0; level <= 5; level++) {
            x.become(2, level, Due.sizeOf(level) - 1);
            due.same("25: LEVEL", x.behind(2, -1), level);
            due.same("25: last of " + level, x.behind(2, Due.sizeOf(level) - 1), 1);
            due.each("25: i of " + level, Due.beside(-1, Due.sizeOf(level) - 1), -5, i -> x.behind(2, i));
        }
        due.each("25: vector", NO_VECTOR, -1, vector -> x.behind(vector, -1));
        due.each("25: vector ahead of i", NO_VECTOR, -1, vector -> x.behind(vector, -2));
        due.each("25: vector ahead of i, 7", NO_VECTOR, -1, vector -> x.behind(vector, 7));
    }

    private static void writtenIs(LevelLadders x, int vector, String want) {
        String got = Due.written(x, vector);
        due.same("26: " + want + ", but " + got, got.equals(want) ? 1 : 0, 1);
        due.same("26: bytes", x.write(vector), want.length());
        due.same("26: bytes of THE PAPER", x.count(2), want.length());
    }

    private static void promise26Nothing() {
        LevelLadders x = new LevelLadders();
        due.same("27: nothing at first", x.paper(0), -1);
        x.become(0, 5, 0);
        writtenIs(x, 0, "[-5]");
        x.put(0, 0, 0);
        writtenIs(x, 0, "");
        due.same("27: nothing again", x.paper(0), -1);
        writtenIs(x, 3, "");
        x.put(3, 0, 1);
        writtenIs(x, 3, "[]");
    }

    private static void promise26Numbers() {
        LevelLadders x = new LevelLadders();
        x.become(1, 2, 1);
        String[] numbers = {"", "2", "9", "10", "11", "19", "20", "99", "100"};
        int[] of = {1, 2, 9, 10, 11, 19, 20, 99, 100};
        for (int i = 0; i < of.length; i++) {
            x.put(1, 1, of[i]);
            writtenIs(x, 1, numbers[i] + "[-1 -1]");
            x.put(1, 0, of[i]);
            writtenIs(x, 1, numbers[i] + "[-2]+" + numbers[i] + "[-1 -1]");
            x.put(1, 0, 0);
        }
        // What is written by 100 is no text for THE TAPE.
        due.same("14: 100[]", Due.read(x, 0, "100[-1 -1]"), -102);
        due.same("14: 99[]", Due.read(x, 0, "99[-1 -1]"), 2);
    }

    private static void promise26Longest() {
        LevelLadders x = new LevelLadders();
        x.become(2, 5, 0);
        for (int i = 0; i < 7; i++) {
            x.put(2, i, 100);
        }
        writtenIs(x, 2, "100[-5]+100[-4 -1]+100[-3 -2]+100[-3 -1 -1]+100[-2 -2 -1]+100[-2 -1 -1 -1]+100[-1 -1 -1 -1 -1]");
        due.same("27: last byte", x.paper(93), ']');
        due.each("27: i", Due.beside(0, 93), -1, x::paper);
        x.put(2, 0, 0);
        x.put(2, 6, 0);
        writtenIs(x, 2, "100[-4 -1]+100[-3 -2]+100[-3 -1 -1]+100[-2 -2 -1]+100[-2 -1 -1 -1]");
        x.become(2, 0, 0);
        writtenIs(x, 2, "[]");
        due.each("27: i, shorter", Due.beside(0, 1), -1, x::paper);
    }

    private static void promise26NoSuchVector() {
        LevelLadders x = new LevelLadders();
        x.become(0, 1, 0);
        x.write(0);
        due.each("26: vector", NO_VECTOR, -1, x::write);
        due.same("27: THE PAPER stays", x.count(2), 4);
        due.same("27: its byte stays", x.paper(2), '1');
    }

    private static void promise27Places() {
        LevelLadders x = new LevelLadders();
        due.each("27: nothing", new int[] {Integer.MIN_VALUE, -1, 0, 1, Integer.MAX_VALUE}, -1, x::paper);
        x.put(1, 0, 1);
        x.write(1);
        due.same("27: first", x.paper(0), '[');
        due.same("27: last", x.paper(1), ']');
        due.each("27: i", Due.beside(0, 1), -1, x::paper);
        x.put(1, 0, 5);
        due.each("27: as it was written", Due.beside(0, 1), -1, x::paper);
    }
}
