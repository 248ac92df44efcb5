import java.lang.reflect.Array;
import java.lang.reflect.Field;
import java.lang.reflect.Modifier;
import java.util.IdentityHashMap;
import java.util.Map;

/**
 * What an object takes of the one room of a run (rule 12 of ../shared/LANGUAGE.md), that 512 calls take no more of
 * it, and that the same calls give the same answers, whatever is asked of other objects between them (5, 13).
 */
public final class RoomTest {
    private static final Due due = new Due();
    private static final int CALLS = 512;
    private static final int MOST_OBJECTS = 100, MOST_PLACES = 3000;

    public static void main(String[] args) throws IllegalAccessException {
        oneObjectIsSmall();
        callsMakeNothingThatIsKept();
        sameCallsSameAnswers();
        objectsDoNotMeet();
        due.end("RoomTest");
    }

    /** All objects that an object holds, itself too, each once. */
    private static Map<Object, Integer> held(Object x) throws IllegalAccessException {
        Map<Object, Integer> held = new IdentityHashMap<>();
        gather(x, held);
        return held;
    }

    private static void gather(Object one, Map<Object, Integer> held) throws IllegalAccessException {
        if (one == null || held.containsKey(one)) {
            return;
        }
        held.put(one, 0);
        if (one.getClass().isArray()) {
            held.put(one, Array.getLength(one));
            if (!one.getClass().getComponentType().isPrimitive()) {
                for (Object inside : (Object[]) one) {
                    gather(inside, held);
                }
            }
            return;
        }
        int fields = 0;
        for (Class<?> c = one.getClass(); c != null; c = c.getSuperclass()) {
            for (Field field : c.getDeclaredFields()) {
                if (!Modifier.isStatic(field.getModifiers())) {
                    fields++;
                    field.setAccessible(true);
                    if (!field.getType().isPrimitive()) {
                        gather(field.get(one), held);
                    }
                }
            }
        }
        held.put(one, fields);
    }

    private static int places(Map<Object, Integer> held) {
        int all = 0;
        for (int places : held.values()) {
            all += places;
        }
        return all;
    }

    private static void oneObjectIsSmall() throws IllegalAccessException {
        Map<Object, Integer> held = held(new LevelLadders());
        due.same("12: objects and arrays", Math.max(held.size(), MOST_OBJECTS), MOST_OBJECTS);
        due.same("12: fields and elements", Math.max(places(held), MOST_PLACES), MOST_PLACES);
    }

    private static void callsMakeNothingThatIsKept() throws IllegalAccessException {
        for (int start = 0; start < 40; start++) {
            LevelLadders x = new LevelLadders();
            Map<Object, Integer> first = held(x);
            for (int call = 0; call < CALLS; call++) {
                call(x, start * CALLS + call);
            }
            Map<Object, Integer> last = held(x);
            due.same("12: as many objects as at first", last.size(), first.size());
            due.same("12: as many places as at first", places(last), places(first));
            due.same("12: the same objects", first.keySet().containsAll(last.keySet()) ? 1 : 0, 1);
        }
    }

    private static void sameCallsSameAnswers() {
        for (int start = 0; start < 40; start++) {
            LevelLadders x = new LevelLadders();
            LevelLadders y = new LevelLadders();
            long[] answers = new long[CALLS];
            for (int call = 0; call < CALLS; call++) {
                answers[call] = call(x, start * CALLS + call);
            }
            for (int call = 0; call < CALLS; call++) {
                due.same("13: call " + call + " once more", call(y, start * CALLS + call), answers[call]);
            }
        }
    }

    /** Objects asked in turn, each by calls of its own, answer as each alone. */
    private static void objectsDoNotMeet() {
        int many = 8;
        LevelLadders[] together = new LevelLadders[many];
        long[][] answers = new long[many][CALLS];
        for (int o = 0; o < many; o++) {
            LevelLadders alone = new LevelLadders();
            for (int call = 0; call < CALLS; call++) {
                answers[o][call] = call(alone, (100 + o) * CALLS + call);
            }
            together[o] = new LevelLadders();
        }
        for (int call = 0; call < CALLS; call++) {
            for (int o = 0; o < many; o++) {
                due.same("5: object " + o + ", call " + call, call(together[o], (100 + o) * CALLS + call), answers[o][call]);
            }
        }
    }

    private static int part(int number, int shift, int n) {
        int mixed = number * 0x9E3779B9;
        mixed = (mixed ^ mixed >>> 15) * 0x85EBCA6B;
        return ((mixed ^ mixed >>> 13) >>> shift) % n;
    }

    /** One call, the same for the same number: each method in its turn, with numbers that may be asked for. */
    private static long call(LevelLadders x, int number) {
        int a = part(number, 1, 6);
        int b = part(number, 4, 4);
        int c = part(number, 7, 101);
        int m = part(number, 10, 11) - 5;
        switch (part(number, 13, 11)) {
            case 0:
                return lawCall(x, number, b, c, m);
            case 1:
            case 2:
                return levelCall(x, number, a, b, m);
            case 3:
                return weightCall(x, number, a, b, c);
            case 4:
            case 5:
                return tapeCall(x, number, b);
            case 6:
            case 7:
                return vectorCall(x, number, a, b, c, m);
            case 8:
                return drawCall(x, number, b, c, m);
            case 9:
                return listCall(x, number, a, b, c);
            default:
                return part(number, 16, 4) == 0 ? x.image() : part(number, 16, 4) == 1 ? x.undo() : x.count(b);
        }
    }

    private static long lawCall(LevelLadders x, int number, int b, int c, int m) {
        int which = part(number, 16, 4);
        return which == 0 ? x.of(b) : which == 1 ? x.bracket(m, -m, c % 2) : x.set(b, b == 0 ? c % 5 : c);
    }

    private static long levelCall(LevelLadders x, int number, int a, int b, int m) {
        switch (part(number, 16, 6)) {
            case 0:
                return x.partition(a, b, m);
            case 1:
                return x.act(m, a, 0, b);
            case 2:
                return x.form(a, 0, b);
            case 3:
                return x.determinant(a);
            case 4:
                return x.rank(a);
            default:
                return x.vanishing(a, m);
        }
    }

    private static long weightCall(LevelLadders x, int number, int a, int b, int c) {
        return part(number, 16, 2) == 0 ? x.zeros(a, b - 1) : x.were(a, c, b - 1);
    }

    private static long tapeCall(LevelLadders x, int number, int b) {
        String text = "[-1 -1]+9[-2]";
        int which = part(number, 16, 8);
        return which == 0 ? x.read(b) : x.feed(text.charAt(x.count(1) % text.length()));
    }

    private static long vectorCall(LevelLadders x, int number, int a, int b, int c, int m) {
        int other = part(number, 20, 4);
        switch (part(number, 16, 8)) {
            case 0:
                return x.become(b, a, other);
            case 1:
                return x.level(b);
            case 2:
                return x.coordinate(b, other);
            case 3:
                return x.put(b, other, c);
            case 4:
                return x.raise(b, m);
            case 5:
                return x.add(b, other, c);
            case 6:
                return x.product(b, other);
            default:
                return x.isLowest(b);
        }
    }

    private static long drawCall(LevelLadders x, int number, int b, int c, int m) {
        switch (part(number, 16, 5)) {
            case 0:
                return x.odds(1 + c % 9, number, 1 + c % 30, b % 2);
            case 1:
                return x.plan(b - 1, b == 1 ? m : b);
            case 2:
                return x.behind(b, m);
            case 3:
                return x.write(b);
            default:
                return x.paper(c);
        }
    }

    private static long listCall(LevelLadders x, int number, int a, int b, int c) {
        switch (part(number, 16, 4)) {
            case 0:
                return x.judge(b, part(number, 20, 4));
            case 1:
                return x.list(b, c % 13);
            case 2:
                return x.lay(b, a, c);
            default:
                return x.get(b, a);
        }
    }
}
