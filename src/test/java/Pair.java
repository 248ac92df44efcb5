import java.lang.reflect.InvocationTargetException;
import java.lang.reflect.Method;
import java.util.Arrays;
import java.util.HashMap;
import java.util.Map;

/** The class and the model side by side: the same calls to both, each answer compared. */
final class Pair {
    /** How a pair begins: as made, or with one of the LAWS and something in each place. */
    static final int NEW = -1;
    static final int[][] LAWS = {{0, 26, 7, 9}, {1, 26, 7, 9}, {2, 100, 11, 60}, {3, 3, 0, 100}, {4, 9, 100, 1}};
    // What is made first and what is asked last stays within 512 calls beside these.
    private static final int MOST_CALLS = 300;
    private static final long THREW = -9999;
    private static final Map<String, Method> OF_CLASS = new HashMap<>(), OF_MODEL = new HashMap<>();

    private final Due due;
    private final int room;
    private LevelLadders x;
    private Model y;
    private int made;

    static {
        for (Method method : LevelLadders.class.getMethods()) {
            if (Numbers.OF_METHODS.containsKey(method.getName())) {
                OF_CLASS.put(method.getName(), method);
                OF_MODEL.put(method.getName(), ofModel(method));
            }
        }
    }

    Pair(Due due, int room) {
        this.due = due;
        this.room = room;
        anew();
    }

    private static Method ofModel(Method method) {
        try {
            return Model.class.getDeclaredMethod(method.getName(), method.getParameterTypes());
        } catch (NoSuchMethodException missing) {
            throw new IllegalStateException("the model has no " + method, missing);
        }
    }

    private void anew() {
        x = new LevelLadders();
        y = new Model();
        made = 0;
        if (room == NEW) {
            return;
        }
        for (int what = 0; what < 4; what++) {
            same("set", what, LAWS[room][what]);
            same("become", what, (room + 2 * what + 1) % 6, 0);
            same("put", what, what % 2, 100 - what);
            same("plan", what % 3, what);
            same("list", what, (4 * what + 12) % 16);
            same("lay", what, 1, 9);
            same("feed", "[-1]".charAt(what));
        }
        same("write", 2);
        if (room % 2 == 0) {
            same("image");
        }
    }

    void same(String name, int... told) {
        made++;
        long want = asked(OF_MODEL.get(name), y, told);
        String call = name + " " + Arrays.toString(told) + ", room " + room;
        due.same("the model throws: " + call, want == THREW ? 1 : 0, 0);
        due.same(call, asked(OF_CLASS.get(name), x, told), want);
    }

    /** The same by a pair that is as it was made, if the call may change something, and all that is told then. */
    void sameAnew(String name, int... told) {
        boolean changing = Numbers.CHANGING.contains(name);
        if (changing || made >= MOST_CALLS) {
            anew();
        }
        same(name, told);
        if (changing) {
            sameBehind(name + " " + Arrays.toString(told) + ", room " + room + ", behind it ");
        }
    }

    private void sameBehind(String call) {
        for (int what = 0; what < 4; what++) {
            due.same(call + "count " + what, x.count(what), y.count(what));
            due.same(call + "of " + what, x.of(what), y.of(what));
            due.same(call + "LEVEL of " + what, x.level(what), y.level(what));
            for (int i = 0; i < 7; i++) {
                due.same(call + "COORDINATE " + i + " of " + what, x.coordinate(what, i), y.coordinate(what, i));
                due.same(call + "BEHIND " + what + ", " + i, x.behind(what, i), y.behind(what, i));
            }
            for (int i = 0; i <= 12; i++) {
                due.same(call + "place " + i + " of LIST " + what, x.get(what, i), y.get(what, i));
            }
            due.same(call + "THE PAPER", x.paper(2 * what), y.paper(2 * what));
        }
        due.same(call + "THE TAPE", x.read(0), y.read(0));
        due.same(call + "THE IMAGE", x.undo(), y.undo());
    }

    /** What a method answers; a number that no promise tells, if it throws. */
    private static long asked(Method method, Object of, int[] told) {
        Object[] numbers = new Object[told.length];
        for (int i = 0; i < told.length; i++) {
            boolean isLong = method.getParameterTypes()[i] == long.class;
            numbers[i] = isLong ? (Object) (long) told[i] : (Object) told[i];
        }
        try {
            return ((Number) method.invoke(of, numbers)).longValue();
        } catch (InvocationTargetException | IllegalAccessException thrown) {
            return THREW;
        }
    }
}
