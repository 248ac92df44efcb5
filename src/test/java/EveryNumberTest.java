import java.lang.reflect.InvocationTargetException;
import java.lang.reflect.Method;
import java.util.HashMap;
import java.util.LinkedHashMap;
import java.util.Map;
import java.util.Set;

/**
 * Each method by every number that its words tell, those beside them and the least and the greatest, in all their
 * joinings: the class and the model answer alike, and the class never throws (rule 7 of ../shared/LANGUAGE.md).
 */
public final class EveryNumberTest {
    private static final Due due = new Due();
    private static final int CALLS = 450;
    private static final long THREW = -9999;
    private static final Set<String> CHANGING = Set.of("set", "feed", "read", "become", "put", "raise", "add", "plan", "write",
        "list", "lay", "image", "undo");
    private static final int[] MODE = range(-5, 5), LEVEL = range(0, 5), PLACE = range(0, 6), WHAT = range(0, 3);
    private static final int[] VECTOR = range(0, 3), LIST = range(0, 3), PART = range(0, 1), ASKED = range(-1, 6);
    private static final int[] NUMBER = of(-1, 0, 1, 2, 50, 99, 100, 101, 102), SEED = of(-1, 0, 7, 190, 705);
    private static final int[] WERE = of(-1, 0, 1, 14, 100, 101), BYTE = range(1, 127), SIZE = range(0, 12);
    private static final Map<String, int[][]> NUMBERS = new LinkedHashMap<>();
    private static final Map<String, Method> OF_CLASS = new HashMap<>(), OF_MODEL = new HashMap<>();
    private static final int[][] LAWS = {{0, 26, 7, 9}, {1, 26, 7, 9}, {2, 100, 11, 60}, {3, 3, 0, 100}, {4, 9, 100, 1}};

    private LevelLadders x;
    private Model y;
    private int made;
    private final int room;

    private EveryNumberTest(int room) {
        this.room = room;
        anew();
    }

    public static void main(String[] args) {
        tellNumbers();
        gatherMethods();
        for (String name : NUMBERS.keySet()) {
            for (int room = -1; room < LAWS.length; room++) {
                new EveryNumberTest(room).all(name, NUMBERS.get(name), 0, new int[NUMBERS.get(name).length]);
            }
        }
        due.same("methods", NUMBERS.size(), 33);
        for (int v = 0; v <= 100; v++) {
            byNumber(v);
        }
        due.end("EveryNumberTest");
    }

    private static void gatherMethods() {
        for (Method method : LevelLadders.class.getMethods()) {
            if (NUMBERS.containsKey(method.getName())) {
                OF_CLASS.put(method.getName(), method);
                try {
                    OF_MODEL.put(method.getName(), Model.class.getDeclaredMethod(method.getName(), method.getParameterTypes()));
                } catch (NoSuchMethodException missing) {
                    throw new IllegalStateException("the model has no " + method, missing);
                }
            }
        }
        due.same("methods of the class", OF_CLASS.size(), 33);
    }

    /** By one of the numbers 0 .. 100, wherever a call takes such a one. */
    private static void byNumber(int v) {
        LevelLadders x = new LevelLadders();
        x.set(0, 3);
        for (int what = 1; what <= 3; what++) {
            x.set(what, v);
            due.same("2: set(" + what + ", " + v + ")", x.of(what), v);
            due.same("2: set() behind set(" + what + ", " + v + ")", x.set(what, v), v);
        }
        due.same("6: WEIGHT " + v, x.act(0, 0, 0, 0), v);
        due.same("4: FIGURE " + v, x.bracket(1, -1, 1), v);
        x.set(0, 1);
        due.same("4: CHARGE " + v, x.bracket(2, -2, 1), Due.mod(v * 51L));
        x.put(0, 0, v);
        due.same("18: put(0, 0, " + v + ")", x.coordinate(0, 0), v);
        due.same("18: put() behind put(0, 0, " + v + ")", x.put(0, 0, 1), v);
        x.put(1, 0, 3);
        x.add(0, 1, v);
        due.same("20: add(0, 1, " + v + ")", x.coordinate(0, 0), Due.mod(1 + 3L * v));
        x.plan(1, v);
        due.same("25: times " + v, x.behind(1, 0), Due.mod(3L * v));
        x.put(2, 0, v);
        due.same("21: by " + v, x.product(1, 2), Due.mod(3L * v));
        String text = v == 0 ? "" : v == 1 ? "[]" : v + "[]";
        due.same("26: " + text, Due.written(x, 2).equals(text) ? 1 : 0, 1);
        if (v > 0 && v < 100) {
            due.same("14: " + v + "[]", Due.read(x, 3, v + "[]"), 0);
            due.same("14: told by " + v + "[]", x.coordinate(3, 0), v);
        }
        x.list(0, 1);
        x.lay(0, 0, v);
        due.same("28: " + v + " as told", x.judge(0, 2), -5);
        due.same("28: " + v + " and one more", x.judge(0, 0), Due.mod(1 + 3L * v) == v ? -5 : 0);
    }

    private static void tellNumbers() {
        tell("set", WHAT, NUMBER);
        tell("of", WHAT);
        tell("bracket", MODE, MODE, PART);
        tell("partition", LEVEL, PLACE, ASKED);
        tell("act", MODE, LEVEL, PLACE, PLACE);
        tell("form", LEVEL, PLACE, PLACE);
        tell("determinant", LEVEL);
        tell("rank", LEVEL);
        tell("zeros", LEVEL, ASKED);
        tell("vanishing", LEVEL, ASKED);
        tell("were", LEVEL, WERE, ASKED);
        tell("feed", BYTE);
        tell("read", VECTOR);
        tell("become", VECTOR, LEVEL, PLACE);
        tell("level", VECTOR);
        tell("coordinate", VECTOR, PLACE);
        tell("put", VECTOR, PLACE, NUMBER);
        tell("raise", VECTOR, MODE);
        tell("add", VECTOR, VECTOR, NUMBER);
        tell("product", VECTOR, VECTOR);
        tell("isLowest", VECTOR);
        tell("odds", range(1, 9), SEED, of(0, 1, 2, 29, 30, 31), PART);
        tell("plan", range(-1, 2), of(-6, -5, -1, 0, 1, 3, 4, 5, 6, 100, 101));
        tell("behind", VECTOR, ASKED);
        tell("write", VECTOR);
        tell("paper", range(0, 94));
        tell("judge", LIST, VECTOR);
        tell("list", LIST, SIZE);
        tell("lay", LIST, SIZE, NUMBER);
        tell("get", LIST, SIZE);
        tell("image");
        tell("undo");
        tell("count", WHAT);
    }

    private static void tell(String name, int[]... numbers) {
        NUMBERS.put(name, numbers);
    }

    private static int[] of(int... numbers) {
        int[] all = java.util.Arrays.copyOf(numbers, numbers.length + 2);
        all[numbers.length] = Integer.MIN_VALUE;
        all[numbers.length + 1] = Integer.MAX_VALUE;
        return all;
    }

    /** least .. most, one beside each, the least and the greatest int. */
    private static int[] range(int least, int most) {
        int[] numbers = new int[most - least + 3];
        for (int i = 0; i < numbers.length; i++) {
            numbers[i] = least - 1 + i;
        }
        return of(numbers);
    }

    private void all(String name, int[][] numbers, int place, int[] told) {
        if (place < numbers.length) {
            for (int number : numbers[place]) {
                told[place] = number;
                all(name, numbers, place + 1, told);
            }
            return;
        }
        if (made >= CALLS || CHANGING.contains(name)) {
            anew();
        }
        same(name, told);
        if (CHANGING.contains(name)) {
            sameBehind(name + " " + java.util.Arrays.toString(told));
        }
    }

    /** Both anew: as made (-1), or with a LAW and something in each place. */
    private void anew() {
        x = new LevelLadders();
        y = new Model();
        made = 0;
        if (room < 0) {
            return;
        }
        for (int what = 0; what < 4; what++) {
            both("set", what, LAWS[room][what]);
            both("become", what, (room + 2 * what + 1) % 6, 0);
            both("put", what, what % 2, 100 - what);
            both("plan", what % 3, what);
            both("list", what, 4 * what);
            both("lay", what, 1, 9);
            both("feed", "[-1]".charAt(what));
        }
        both("write", 2);
        if (room % 2 == 0) {
            both("image");
        }
    }

    /** What both tell behind a call that may change something. */
    private void sameBehind(String call) {
        for (int what = 0; what < 4; what++) {
            due.same(call + ", behind it count " + what, x.count(what), y.count(what));
            due.same(call + ", behind it of " + what, x.of(what), y.of(what));
            due.same(call + ", behind it level " + what, x.level(what), y.level(what));
            for (int i = 0; i < 7; i++) {
                due.same(call + ", behind it coordinate " + i, x.coordinate(what, i), y.coordinate(what, i));
                due.same(call + ", behind it the PLAN " + i, x.behind(what, i), y.behind(what, i));
            }
            for (int i = 0; i <= 12; i += 1 + i / 2) {
                due.same(call + ", behind it the LIST", x.get(what, i), y.get(what, i));
            }
            due.same(call + ", behind it THE PAPER", x.paper(2 * what), y.paper(2 * what));
        }
        due.same(call + ", behind it THE TAPE", x.read(0), y.read(0));
        due.same(call + ", behind it THE IMAGE", x.undo(), y.undo());
    }

    private void both(String name, int... told) {
        due.same("made by " + name, asked(OF_CLASS.get(name), x, told), asked(OF_MODEL.get(name), y, told));
    }

    private void same(String name, int[] told) {
        StringBuilder call = new StringBuilder(name);
        for (int number : told) {
            call.append(' ').append(number);
        }
        made++;
        long want = asked(OF_MODEL.get(name), y, told);
        due.same("the model: " + call, want == THREW ? 1 : 0, 0);
        due.same(call + ", object " + room, asked(OF_CLASS.get(name), x, told), want);
    }

    /** What a method answers; a number that no promise tells, if it throws. */
    private static long asked(Method method, Object of, int[] told) {
        Object[] numbers = new Object[told.length];
        for (int i = 0; i < told.length; i++) {
            boolean isLong = method.getParameterTypes()[i] == long.class;
            numbers[i] = isLong ? (Object) (long) told[i] : (Object) told[i];
        }
        try {
            return ((Number) method.invoke(of, numbers)).longValue();
        } catch (InvocationTargetException | IllegalAccessException thrown) {
            return THREW;
        }
    }
}
