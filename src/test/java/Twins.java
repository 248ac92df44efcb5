import java.util.LinkedHashMap;
import java.util.List;
import java.util.Map;

/**
 * Objects made alike. A call is made on one of them and not on the other; then both are asked for all that
 * an object tells. What only a changing call can tell (THE TAPE, THE IMAGE) is asked last.
 */
final class Twins {
    static final int NEW = 0, SOME = 1, FULL = 2;
    private static final int[] ROOMS = {NEW, SOME, FULL};
    private static final String[] NAMES = {"a new one", "one with something", "a full one"};
    private static final List<Map<String, Long>> UNTOUCHED = List.of(told(made(NEW)), told(made(SOME)), told(made(FULL)));

    private Twins() {
    }

    /** A call with all its numbers told. */
    interface Call {
        long on(LevelLadders x);
    }

    /** A call on an object that is known, one number of which is left to tell. */
    interface Number {
        long of(int number);
    }

    static LevelLadders made(int room) {
        LevelLadders x = new LevelLadders();
        if (room != NEW) {
            imaged(x);
            filled(x);
        }
        if (room == FULL) {
            filledUp(x);
        }
        return x;
    }

    private static void law(LevelLadders x, int kind, int charge, int weight, int figure) {
        x.set(0, kind);
        x.set(1, charge);
        x.set(2, weight);
        x.set(3, figure);
    }

    private static void imaged(LevelLadders x) {
        law(x, 1, 3, 8, 2);
        x.become(1, 1, 0);
        x.become(2, 3, 2);
        x.plan(1, 9);
        x.image();
    }

    private static void filled(LevelLadders x) {
        law(x, 2, 26, 7, 9);
        x.become(0, 0, 0);
        x.put(0, 0, 100);
        x.become(1, 2, 1);
        x.put(1, 0, 40);
        x.become(2, 5, 6);
        x.put(2, 0, 99);
        // VECTOR 3 is 0, but of LEVEL 1.
        x.become(3, 1, 0);
        x.put(3, 0, 0);
        x.plan(-1, 0);
        x.plan(0, -1);
        x.plan(1, 3);
        x.plan(2, 1);
        x.list(1, 0);
        x.list(2, 3);
        x.lay(2, 2, 5);
        x.list(3, 12);
        x.lay(3, 11, Long.MAX_VALUE);
        Due.feed(x, "5[-1 0]");
        x.write(1);
    }

    private static void filledUp(LevelLadders x) {
        x.become(2, 5, 0);
        for (int i = 0; i < 7; i++) {
            x.put(2, i, 100);
        }
        for (int row = 0; row < 5; row++) {
            x.plan(2, row % 4);
        }
        for (int list = 0; list < 4; list++) {
            x.list(list, 12);
            x.lay(list, list, -1 - list);
        }
        Due.feed(x, "+12[" + "0 ".repeat(23) + "-1]");
        x.write(2);
    }

    /**
     * All that an object tells, each answer by a name that begins with what it belongs to: LAW, VECTOR 0 .. 3,
     * COUNT, PLAN, BEHIND, LIST 0 .. 3, PAPER, FED, TAPE, IMAGE. Some of the calls change the object.
     */
    static Map<String, Long> told(LevelLadders x) {
        Map<String, Long> told = new LinkedHashMap<>();
        tellState(x, "", told);
        tellLists(x, told);
        tellPaper(x, told);
        told.put("FED bytes", (long) x.count(1));
        told.put("TAPE read(3)", (long) x.read(3));
        tellVectors(x, "TAPE then ", told);
        told.put("FED bytes, read", (long) x.count(1));
        int undone = x.undo();
        told.put("IMAGE undo()", (long) undone);
        if (undone >= 0) {
            tellState(x, "IMAGE then ", told);
        }
        return told;
    }

    private static void tellState(LevelLadders x, String when, Map<String, Long> told) {
        for (int what = 0; what < 4; what++) {
            told.put(when + "LAW of(" + what + ")", (long) x.of(what));
        }
        told.put(when + "PLAN rows", (long) x.count(3));
        tellVectors(x, when, told);
        for (int vector = 0; vector < 4; vector++) {
            for (int i = -1; i < 7; i++) {
                told.put(when + "BEHIND " + vector + ", " + i, (long) x.behind(vector, i));
            }
        }
    }

    private static void tellVectors(LevelLadders x, String when, Map<String, Long> told) {
        told.put(when + "COUNT of COORDINATES", (long) x.count(0));
        for (int vector = 0; vector < 4; vector++) {
            String its = when + "VECTOR " + vector;
            int level = x.level(vector);
            told.put(its + " level", (long) level);
            for (int i = 0; i < Due.sizeOf(level); i++) {
                told.put(its + " coordinate " + i, (long) x.coordinate(vector, i));
            }
        }
    }

    private static void tellLists(LevelLadders x, Map<String, Long> told) {
        for (int list = 0; list < 4; list++) {
            String its = "LIST " + list;
            told.put(its + " judge by VECTOR 3", (long) x.judge(list, 3));
            for (int i = 0; i < 12; i++) {
                told.put(its + " place " + i, x.get(list, i));
            }
        }
    }

    private static void tellPaper(LevelLadders x, Map<String, Long> told) {
        int size = x.count(2);
        told.put("PAPER bytes", (long) size);
        for (int i = 0; i <= size; i += 3) {
            told.put("PAPER byte " + i, (long) x.paper(i));
        }
    }

    /** By any object: the call answers as told, and nothing has changed behind it. */
    static void stays(Due due, String call, long want, Call c) {
        for (int room : ROOMS) {
            stays(due, room, call, want, c);
        }
    }

    /** The same by one object, but for what the names begin. */
    static void stays(Due due, int room, String call, long want, Call c, String... names) {
        LevelLadders x = made(room);
        due.same(call + " of " + NAMES[room], c.on(x), want);
        compare(due, room, call, x, names);
    }

    /** By any object: nothing has changed behind the call, whatever it answers, but what the names begin. */
    static void changes(Due due, String call, Call c, String... names) {
        for (int room : ROOMS) {
            LevelLadders x = made(room);
            c.on(x);
            compare(due, room, call, x, names);
        }
    }

    private static void compare(Due due, int room, String call, LevelLadders x, String... names) {
        Map<String, Long> told = told(x);
        for (Map.Entry<String, Long> want : UNTOUCHED.get(room).entrySet()) {
            String name = want.getKey();
            if (!beginsAny(name, names)) {
                String whole = call + " of " + NAMES[room] + ", behind it " + name;
                due.same(whole, told.getOrDefault(name, -99L), want.getValue());
            }
        }
    }

    private static boolean beginsAny(String name, String... beginnings) {
        for (String beginning : beginnings) {
            if (name.startsWith(beginning)) {
                return true;
            }
        }
        return false;
    }
}
