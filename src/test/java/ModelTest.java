/** Long runs of calls, the same to the class and to the model, each answer compared. */
public final class ModelTest {
    private static final Due due = new Due();
    private static final int RUNS = 150;
    private static final int CALLS = 510;
    private static final int[] FAR = {Integer.MIN_VALUE, Integer.MAX_VALUE, -101, 101, -6, 256};
    private static final String LETTERS = "[]-+ 0123456789x";

    private long state;
    private LevelLadders x;
    private Model y;
    private String run;

    public static void main(String[] args) {
        for (int run = 1; run <= RUNS; run++) {
            new ModelTest().go(run);
        }
        due.end("ModelTest");
    }

    /** Numbers that look drawn but are the same in each run. */
    private int below(int n) {
        state = state * 6364136223846793005L + 1442695040888963407L;
        return (int) ((state >>> 33) % n);
    }

    /** Mostly least .. most, now and then just beyond or far away. */
    private int near(int least, int most) {
        int odd = below(40);
        if (odd == 0) {
            return FAR[below(FAR.length)];
        }
        return odd == 1 ? least - 1 : odd == 2 ? most + 1 : least + below(most - least + 1);
    }

    private void go(int run) {
        state = run * 7919L;
        this.run = "run " + run;
        x = new LevelLadders();
        y = new Model();
        int left = CALLS;
        int law = below(5);
        while (left > 0) {
            left -= call(below(100), law, left);
        }
    }

    /** Makes one call (or a text fed and read) and tells how many calls that was. */
    private int call(int which, int law, int left) {
        if (which < 6) {
            lawCall(law);
            return 3;
        } else if (which < 36) {
            levelCall(which);
        } else if (which < 46) {
            return textCall(left);
        } else if (which < 70) {
            vectorCall(which);
        } else if (which < 84) {
            drawCall(which);
        } else {
            listCall(which);
        }
        return 1;
    }

    private void same(String call, long got, long want) {
        due.same(run + ": " + call, got, want);
    }

    private void lawCall(int law) {
        int what = near(0, 3);
        int v = below(4) == 0 ? near(0, 100) : what == 0 ? law : below(3);
        int m = near(-5, 5);
        int n = near(-5, 5);
        int part = near(0, 1);
        same("set(" + what + ", " + v + ")", x.set(what, v), y.set(what, v));
        same("of(" + what + ")", x.of(what), y.of(what));
        same("bracket(" + m + ", " + n + ", " + part + ")", x.bracket(m, n, part), y.bracket(m, n, part));
    }

    private void levelCall(int which) {
        int level = near(0, 5);
        int i = near(0, Math.max(0, Due.sizeOf(level) - 1));
        int j = near(-1, 6);
        int m = near(-5, 5);
        int v = below(3) == 0 ? 0 : near(0, 100);
        String args = level + ", " + i + ", " + j + ")";
        if (which < 8) {
            same("partition(" + args, x.partition(level, i, j), y.partition(level, i, j));
        } else if (which < 18) {
            same("act(" + m + ", " + args, x.act(m, level, i, j), y.act(m, level, i, j));
        } else if (which < 22) {
            same("form(" + args, x.form(level, i, j), y.form(level, i, j));
        } else if (which < 25) {
            same("determinant(" + level + ")", x.determinant(level), y.determinant(level));
        } else if (which < 28) {
            same("rank(" + level + ")", x.rank(level), y.rank(level));
        } else if (which < 32) {
            same("vanishing(" + level + ", " + j + ")", x.vanishing(level, j), y.vanishing(level, j));
        } else if (which < 34) {
            same("zeros(" + level + ", " + j + ")", x.zeros(level, j), y.zeros(level, j));
        } else {
            same("were(" + level + ", " + v + ", " + j + ")", x.were(level, v, j), y.were(level, v, j));
        }
    }

    private String text() {
        StringBuilder text = new StringBuilder();
        int level = below(6);
        int terms = 1 + below(3);
        for (int t = 0; t < terms; t++) {
            text.append(t == 0 ? "" : "+").append(below(2) == 0 ? "" : 1 + below(99)).append('[');
            text.append(modes(below(9) == 0 ? below(6) : level)).append(']');
        }
        if (below(5) == 0) {
            int place = below(text.length() + 1);
            char letter = LETTERS.charAt(below(LETTERS.length()));
            int how = below(3);
            if (how == 0) {
                text.insert(place, letter);
            } else if (how == 1 && place < text.length()) {
                text.setCharAt(place, letter);
            } else {
                text.setLength(place);
            }
        }
        return text.toString();
    }

    /** Modes, mostly such as lead to a LEVEL, told in the order of the text. */
    private String modes(int level) {
        StringBuilder text = new StringBuilder();
        int at = 0;
        int many = below(5);
        for (int i = 0; i < many; i++) {
            int to = below(12) == 0 ? below(10) - 2 : below(6);
            int m = Math.max(-5, Math.min(5, at - to));
            text.insert(0, m + (text.length() == 0 ? "" : " "));
            at -= m;
        }
        if (at != level && Math.abs(at - level) <= 5) {
            text.insert(0, (at - level) + (text.length() == 0 ? "" : " "));
        }
        return text.toString();
    }

    private int textCall(int left) {
        String text = text();
        int fed = Math.min(text.length(), Math.max(0, left - 3));
        int vector = near(0, 3);
        for (int i = 0; i < fed; i++) {
            same("feed " + text.charAt(i), x.feed(text.charAt(i)), y.feed(text.charAt(i)));
        }
        int letter = below(60) == 0 ? near(1, 127) : 0;
        same("feed(" + letter + ")", x.feed(letter), y.feed(letter));
        if (below(12) > 0) {
            same("read(" + vector + ") of " + text, x.read(vector), y.read(vector));
            same("level(" + vector + ")", x.level(vector), y.level(vector));
        }
        return fed + 3;
    }

    private void vectorCall(int which) {
        int vector = near(0, 3);
        int other = below(4) == 0 ? vector : near(0, 3);
        int level = near(0, 5);
        int i = near(0, Math.max(0, Due.sizeOf(y.level(vector)) - 1));
        int j = near(0, Math.max(0, Due.sizeOf(level) - 1));
        int v = near(0, 100);
        int m = near(-5, 5);
        if (which < 49) {
            String args = vector + ", " + level + ", " + j + ")";
            same("become(" + args, x.become(vector, level, j), y.become(vector, level, j));
        } else if (which < 50) {
            same("level(" + vector + ")", x.level(vector), y.level(vector));
        } else if (which < 55) {
            same("coordinate(" + vector + ", " + i + ")", x.coordinate(vector, i), y.coordinate(vector, i));
        } else if (which < 58) {
            same("put(" + vector + ", " + i + ", " + v + ")", x.put(vector, i, v), y.put(vector, i, v));
        } else if (which < 62) {
            same("raise(" + vector + ", " + m + ")", x.raise(vector, m), y.raise(vector, m));
        } else if (which < 65) {
            same("add(" + vector + ", " + other + ", " + v + ")", x.add(vector, other, v), y.add(vector, other, v));
        } else if (which < 68) {
            same("product(" + vector + ", " + other + ")", x.product(vector, other), y.product(vector, other));
        } else {
            same("isLowest(" + vector + ")", x.isLowest(vector), y.isLowest(vector));
        }
    }

    private void drawCall(int which) {
        int n = near(1, 9);
        int m = near(1, 30);
        int part = near(0, 1);
        int seed = below(2) == 0 ? below(1000) : (int) (state >>> 20);
        int what = near(0, 2);
        int v = what == 0 ? near(-5, 5) : what == 1 ? near(0, 100) : near(0, 3);
        int vector = near(0, 3);
        int i = near(-1, 6);
        if (which < 73) {
            String args = n + ", " + seed + ", " + m + ", " + part + ")";
            same("odds(" + args, x.odds(n, seed, m, part), y.odds(n, seed, m, part));
        } else if (which < 76) {
            same("plan(" + what + ", " + v + ")", x.plan(what, v), y.plan(what, v));
        } else if (which < 80) {
            same("behind(" + vector + ", " + i + ")", x.behind(vector, i), y.behind(vector, i));
        } else if (which < 82) {
            same("write(" + vector + ")", x.write(vector), y.write(vector));
        } else {
            int place = near(0, 25);
            same("paper(" + place + ")", x.paper(place), y.paper(place));
        }
    }

    private void listCall(int which) {
        int list = near(0, 3);
        int vector = near(0, 3);
        int n = near(0, 12);
        int place = near(0, 11);
        if (which < 87) {
            same("judge(" + list + ", " + vector + ")", x.judge(list, vector), y.judge(list, vector));
        } else if (which < 89) {
            same("list(" + list + ", " + n + ")", x.list(list, n), y.list(list, n));
        } else if (which < 93) {
            int at = below(7);
            long v = below(2) == 0 ? y.coordinate(below(4), at) : near(0, 2);
            same("lay(" + list + ", " + at + ", " + v + ")", x.lay(list, at, v), y.lay(list, at, v));
        } else if (which < 95) {
            same("get(" + list + ", " + place + ")", x.get(list, place), y.get(list, place));
        } else if (which < 96) {
            same("image()", x.image(), y.image());
        } else if (which < 97) {
            same("undo()", x.undo(), y.undo());
        } else {
            int what = near(0, 3);
            same("count(" + what + ")", x.count(what), y.count(what));
        }
    }
}
