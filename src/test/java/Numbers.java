import java.util.Arrays;
import java.util.LinkedHashMap;
import java.util.Map;
import java.util.Set;

/** The numbers that each method's words tell, two beside them at either end, the least and the greatest int. */
final class Numbers {
    static final int[] MODE = range(-5, 5), LEVEL = range(0, 5), PLACE = range(0, 6), WHAT = range(0, 3), PART = range(0, 1);
    static final int[] VECTOR = range(0, 3), LIST = range(0, 3), ASKED = range(-1, 6), BYTE = range(1, 127), SIZE = range(0, 12);
    static final int[] NUMBER = of(-2, -1, 0, 1, 2, 50, 99, 100, 101, 102), WERE = of(-1, 0, 1, 14, 100, 101);
    static final int[] DRAWS = range(1, 9), SEED = of(-1, 0, 7, 190, 705), SEEDS = of(-1, 0, 1, 2, 29, 30, 31);
    static final int[] ROW = range(-1, 2), ROW_NUMBER = of(-6, -5, -1, 0, 1, 3, 4, 5, 6, 100, 101);
    static final Map<String, int[][]> OF_METHODS = new LinkedHashMap<>();
    /** The methods that may change what the object holds. */
    static final Set<String> CHANGING = Set.of("set", "feed", "read", "become", "put", "raise", "add", "plan", "write",
        "list", "lay", "image", "undo");

    static {
        tell("set", WHAT, NUMBER);
        tell("of", WHAT);
        tell("bracket", MODE, MODE, PART);
        tell("partition", LEVEL, PLACE, ASKED);
        tell("act", MODE, LEVEL, PLACE, PLACE);
        tell("form", LEVEL, PLACE, PLACE);
        tell("determinant", LEVEL);
        tell("rank", LEVEL);
        tell("zeros", LEVEL, ASKED);
        tell("vanishing", LEVEL, ASKED);
        tell("were", LEVEL, WERE, ASKED);
        tell("feed", BYTE);
        tell("read", VECTOR);
        tell("become", VECTOR, LEVEL, PLACE);
        tell("level", VECTOR);
        tell("coordinate", VECTOR, PLACE);
        tell("put", VECTOR, PLACE, NUMBER);
        tell("raise", VECTOR, MODE);
        tell("add", VECTOR, VECTOR, NUMBER);
        tell("product", VECTOR, VECTOR);
        tell("isLowest", VECTOR);
        tell("odds", DRAWS, SEED, SEEDS, PART);
        tell("plan", ROW, ROW_NUMBER);
        tell("behind", VECTOR, ASKED);
        tell("write", VECTOR);
        tell("paper", range(0, 93));
        tell("judge", LIST, VECTOR);
        tell("list", LIST, SIZE);
        tell("lay", LIST, SIZE, NUMBER);
        tell("get", LIST, SIZE);
        tell("image");
        tell("undo");
        tell("count", WHAT);
    }

    private Numbers() {
    }

    private static void tell(String name, int[]... numbers) {
        OF_METHODS.put(name, numbers);
    }

    private static int[] of(int... numbers) {
        int[] all = Arrays.copyOf(numbers, numbers.length + 2);
        all[numbers.length] = Integer.MIN_VALUE;
        all[numbers.length + 1] = Integer.MAX_VALUE;
        return all;
    }

    private static int[] range(int least, int most) {
        int[] numbers = new int[most - least + 5];
        for (int i = 0; i < numbers.length; i++) {
            numbers[i] = least - 2 + i;
        }
        return of(numbers);
    }
}
