/** Counts the answers of one test program and tells those that are not due. */
final class Due {
    private int checked;
    private int wrong;

    void same(String call, long got, long want) {
        checked++;
        if (got != want) {
            wrong++;
            if (wrong <= 40) {
                System.out.println(call + " answered " + got + ", due is " + want);
            }
        }
    }

    void row(String call, long[] got, long... want) {
        same(call + ", how many", got.length, want.length);
        for (int i = 0; i < Math.min(got.length, want.length); i++) {
            same(call + ", place " + i, got[i], want[i]);
        }
    }

    void end(String test) {
        System.out.println(test + ": " + checked + " answers, " + wrong + " not as due");
        if (wrong != 0) {
            System.exit(1);
        }
    }

    void each(String call, int[] numbers, long want, Twins.Number f) {
        for (int number : numbers) {
            same(call + " by " + number, f.of(number), want);
        }
    }

    /** The numbers next to those that are allowed, and the least and the greatest int. */
    static int[] beside(int least, int most) {
        return new int[] {Integer.MIN_VALUE, least - 1, most + 1, Integer.MAX_VALUE};
    }

    static LevelLadders withLaw(int kind, int charge, int weight, int figure) {
        LevelLadders x = new LevelLadders();
        x.set(0, kind);
        x.set(1, charge);
        x.set(2, weight);
        x.set(3, figure);
        return x;
    }

    static int read(LevelLadders x, int vector, String text) {
        feed(x, text);
        return x.read(vector);
    }

    static void feed(LevelLadders x, String text) {
        for (int i = 0; i < text.length(); i++) {
            x.feed(text.charAt(i));
        }
    }

    static String written(LevelLadders x, int vector) {
        int size = x.write(vector);
        StringBuilder text = new StringBuilder();
        for (int i = 0; i < size; i++) {
            text.append((char) x.paper(i));
        }
        return text.toString();
    }

    static long[] coordinates(LevelLadders x, int vector) {
        long[] all = new long[sizeOf(x.level(vector))];
        for (int i = 0; i < all.length; i++) {
            all[i] = x.coordinate(vector, i);
        }
        return all;
    }

    static int sizeOf(int level) {
        int[] sizes = {1, 1, 2, 3, 5, 7};
        return level < 0 || level > 5 ? 0 : sizes[level];
    }

    static int mod(long x) {
        return (int) Math.floorMod(x, 101L);
    }

    static long power(long base, int often) {
        long all = 1;
        for (int i = 0; i < often; i++) {
            all = all * mod(base) % 101;
        }
        return all;
    }
}
