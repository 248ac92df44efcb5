/**
 * Promises 13 and 14 by every text of up to five bytes that the signs of a text make, and every TERM of up to four
 * MODES, alone and with another: the class and the model answer alike.
 */
public final class EveryTextTest {
    private static final Due due = new Due();
    private static final String SIGNS = "[]-+ 0156";
    private static final int LONGEST = 5;
    private static final int MOST_CALLS = 512;

    private final int[] law;
    private LevelLadders x;
    private Model y;
    private int made = MOST_CALLS;

    private EveryTextTest(int... law) {
        this.law = law;
    }

    public static void main(String[] args) {
        new EveryTextTest(1, 26, 7, 9).texts("");
        EveryTextTest charged = new EveryTextTest(1, 26, 7, 9);
        charged.terms("", 4);
        charged.twoTerms();
        for (int kind = 0; kind <= 4; kind++) {
            new EveryTextTest(kind, 100, 60, 99).terms("", 3);
        }
        due.end("EveryTextTest");
    }

    private void texts(String begun) {
        same(begun);
        for (int i = 0; i < SIGNS.length() && begun.length() < LONGEST; i++) {
            texts(begun + SIGNS.charAt(i));
        }
    }

    private void terms(String modes, int left) {
        same("[" + modes + "]");
        for (int m = -5; m <= 5 && left > 0; m++) {
            terms(m + (modes.isEmpty() ? "" : " ") + modes, left - 1);
        }
    }

    private void twoTerms() {
        for (int one = -5; one <= 5; one++) {
            for (int other = -5; other <= 5; other++) {
                for (int m = -5; m <= 5; m++) {
                    same("[" + one + " " + other + "]+9[" + m + "]");
                    same("2[" + m + "]+[" + one + " " + other + "]");
                    same("99[" + one + " " + other + "]+[" + m + " " + one + "]");
                }
            }
        }
    }

    private void same(String text) {
        // Fed, read, and what the VECTOR is then: so many calls at most.
        if (made + text.length() + 10 > MOST_CALLS) {
            x = Due.withLaw(law[0], law[1], law[2], law[3]);
            y = new Model();
            for (int what = 0; what < 4; what++) {
                y.set(what, law[what]);
            }
            made = 4;
        }
        made += text.length() + 2;
        Due.feed(x, text);
        for (int i = 0; i < text.length(); i++) {
            y.feed(text.charAt(i));
        }
        int vector = made % 4;
        due.same("14: read(" + vector + ") of " + text, x.read(vector), y.read(vector));
        int level = x.level(vector);
        due.same("14: LEVEL behind " + text, level, y.level(vector));
        for (int i = 0; i < Due.sizeOf(level); i++) {
            made++;
            due.same("14: COORDINATE " + i + " behind " + text, x.coordinate(vector, i), y.coordinate(vector, i));
        }
    }
}
