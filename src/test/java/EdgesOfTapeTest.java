/** Boundary cases of promises 13 and 14 (feed, read), a test for each sentence that names one. */
public final class EdgesOfTapeTest {
    private static final Due due = new Due();
    private static final int[] NO_VECTOR = Due.beside(0, 3);
    /** A byte less than THE TAPE holds: 29 MODES. */
    private static final String ALMOST = "[" + "0 ".repeat(28) + "0]";

    public static void main(String[] args) {
        promise13LeastAndGreatestByte();
        promise13SixtyBytes();
        promise14NoByte();
        promise14SixtyBytes();
        promise14TooEarly();
        promise14Numbers();
        promise14Figures();
        promise14Modes();
        promise14Blanks();
        promise14Terms();
        promise14FaultAheadOfState();
        promise14Levels();
        promise14TooHigh();
        promise14BelowOnTheWay();
        promise14UnlikeLevels();
        promise14LastFirst();
        promise14HundredAndOneIsNought();
        promise14NoSuchVector();
        promise14FedAgain();
        due.end("EdgesOfTapeTest");
    }

    private static void promise13LeastAndGreatestByte() {
        LevelLadders x = new LevelLadders();
        due.each("13: feed", Due.beside(1, 127), -2, x::feed);
        due.each("13: feed, one byte more", new int[] {256 + '[', '[' - 256, 128, -128}, -2, x::feed);
        due.same("13: none came", x.count(1), 0);
        due.same("13: feed(1)", x.feed(1), 1);
        due.same("13: feed(127)", x.feed(127), 2);
        due.same("13: two came", x.count(1), 2);
        due.same("13: the first is the FAULT", x.read(0), -100);
    }

    private static void promise13SixtyBytes() {
        LevelLadders x = new LevelLadders();
        for (int i = 1; i <= 60; i++) {
            due.same("13: byte " + i, x.feed(i == 1 ? '[' : i % 2 == 0 ? '0' : ' '), i);
        }
        due.each("13: one more", new int[] {1, ']', 127}, -4, x::feed);
        due.each("13: one more that is BAD", Due.beside(1, 127), -2, x::feed);
        due.same("13: sixty", x.count(1), 60);
        due.same("13: nothing came behind", x.read(0), -160);
    }

    /** A text that is refused: the answer, the VECTOR that stays, THE TAPE that is empty, by each VECTOR. */
    private static void refused(String text, int want) {
        for (int vector = 0; vector <= 3; vector++) {
            LevelLadders x = Due.withLaw(1, 26, 7, 1);
            x.become(vector, 3, 1);
            x.put(vector, 2, 100);
            String call = "14: " + text + " by " + vector;
            due.same(call, Due.read(x, vector, text), want);
            due.same(call + ", LEVEL stays", x.level(vector), 3);
            due.row(call + ", COORDINATES stay", Due.coordinates(x, vector), 0, 1, 100);
            due.same(call + ", no other has one", x.count(0), 2);
            due.same(call + ", THE TAPE is empty", x.count(1), 0);
            due.same(call + ", read again", x.read(vector), -100);
            due.same(call + ", fed again", x.feed('['), 1);
        }
    }

    private static void fault(String text, int place) {
        refused(text, -100 - place);
    }

    private static void state(String text) {
        refused(text, -3);
    }

    private static void told(String text, int level, long... wants) {
        for (int vector = 0; vector <= 3; vector++) {
            LevelLadders x = Due.withLaw(1, 26, 7, 1);
            x.become(vector, 5, 6);
            String call = "14: " + text + " by " + vector;
            due.same(call, Due.read(x, vector, text), level);
            due.same(call + ", LEVEL", x.level(vector), level);
            due.row(call, Due.coordinates(x, vector), wants);
            due.same(call + ", THE TAPE is empty", x.count(1), 0);
        }
    }

    private static void promise14NoByte() {
        fault("", 0);
    }

    private static void promise14SixtyBytes() {
        told(ALMOST, 0, Due.power(7, 29));
        told("9" + ALMOST, 0, 9 * Due.power(7, 29) % 101);
        due.same("14: these are sixty", ALMOST.length() + 1, 60);
        fault("9" + ALMOST.substring(0, 58) + "x", 59);
        fault("9" + ALMOST.substring(0, 58) + "-", 59);
        fault("x" + ALMOST, 0);
        state("9[1" + ALMOST.substring(2));
    }

    private static void promise14TooEarly() {
        fault("[", 1);
        fault("9", 1);
        fault("99", 2);
        fault("9[", 2);
        fault("[-", 2);
        fault("[-5", 3);
        fault("[0", 2);
        fault("[0 ", 3);
        fault("[0 -", 4);
        fault("[]+", 3);
        fault("[]+9", 4);
        fault("[]+[", 4);
        fault("10" + ALMOST.substring(0, 58), 60);
    }

    private static void promise14Numbers() {
        told("[]", 0, 1);
        told("1[]", 0, 1);
        told("9[]", 0, 9);
        told("10[]", 0, 10);
        told("11[]", 0, 11);
        told("90[]", 0, 90);
        told("99[]", 0, 99);
        fault("0[]", 0);
        fault("00[]", 0);
        fault("01[]", 0);
        fault("-1[]", 0);
        fault("100[]", 2);
        fault("999[]", 2);
        fault("[]+0[]", 3);
        fault("[]+100[]", 5);
    }

    /** The signs next to the figures and to the others that a text may hold. */
    private static void promise14Figures() {
        for (char sign : new char[] {'0' - 1, '9' + 1, '[' - 1, '[' + 1, 1, 127}) {
            fault(sign + "[]", 0);
            fault("1" + sign + "[]", 1);
            fault("10" + sign + "[]", 2);
            fault("[" + sign + "]", 1);
            fault("[-" + sign + "]", 2);
            fault("[0" + sign + "]", 2);
            fault("[0 " + sign + "]", 3);
            fault("[]" + sign, 2);
        }
        for (char sign : new char[] {'+' - 1, ',', '-', ']' - 1, ']' + 1, ' ', '['}) {
            fault("[]" + sign + "[]", 2);
        }
    }

    private static void promise14Modes() {
        told("[0]", 0, 7);
        told("[-5]", 5, 1, 0, 0, 0, 0, 0, 0);
        told("[5 -5]", 0, Due.mod(10 * 7 + 10 * 26));
        told("[-1]", 1, 1);
        told("[1 -1]", 0, 14);
        fault("[6]", 1);
        fault("[9]", 1);
        fault("[-6]", 2);
        fault("[-9]", 2);
        fault("[-0]", 2);
        fault("[0 -0]", 4);
        fault("[00]", 2);
        fault("[-10]", 3);
        fault("[10]", 2);
        fault("[--1]", 2);
        fault("[+1]", 1);
        fault("[-]", 2);
    }

    private static void promise14Blanks() {
        told("[-1 -1]", 2, 0, 1);
        fault("[-1  -1]", 4);
        fault("[-1-1]", 3);
        fault("[ ]", 1);
        fault("[ -1]", 1);
        fault("[-1 ]", 4);
        fault("[- 1]", 2);
        fault(" []", 0);
        fault("[] ", 2);
        fault("1 []", 1);
        fault("[] +[]", 2);
        fault("[]+ []", 3);
    }

    private static void promise14Terms() {
        told("[]+[]", 0, 2);
        told("[]+".repeat(19) + "[]", 0, 20);
        fault("[]+".repeat(20), 60);
        fault("[]+".repeat(19) + "10[", 60);
        fault("+", 0);
        fault("+[]", 0);
        fault("[]++[]", 3);
        fault("[][]", 2);
        fault("[]]", 2);
        fault("]", 0);
        fault("[[]]", 1);
    }

    private static void promise14FaultAheadOfState() {
        fault("[1]x", 3);
        fault("[1]+", 4);
        fault("[-5 -5]+[", 9);
        fault("[-1]+[-2]+[-0]", 12);
        fault("[-1]+[-2]]", 9);
        state("[1]");
        state("[-5 -5]+[]");
        state("[-1]+[-2]+[0]");
    }

    private static void promise14Levels() {
        told("[0 0]", 0, 49);
        state("[1]");
        state("[5]");
        state("[1 0]");
        state("[2 -1]");
        state("[5 -4]");
        told("[-1 -4]", 5, 3, 1, 0, 0, 0, 0, 0);
        told("[-3 -2]", 5, 0, 0, 1, 0, 0, 0, 0);
        state("[-3 -3]");
        state("[-1 -5]");
        state("[-5 -1]");
        state("[-5 -5 -5]");
    }

    private static void promise14TooHigh() {
        told("[5 -5]", 0, Due.mod(10 * 7 + 10 * 26));
        state("[1 -1 -5]");
        state("[1 -5 -1]");
        state("[5 -1 -5]");
        state("[5 5 -5 -5]");
        state("[5 -3 -3]");
        state("[]+[1 5 -1 -5]");
        state("[1 5 -1 -5]+[]");
        // The first MODES together are below -5, the last ones never.
        told("[-5 -3 3]", 5, 0, 0, 0, 0, 0, 0, 0);
        told("[-5 -1 1]", 5, 0, 0, 0, 0, 0, 0, 0);
        told("[-5 -5 5]", 5, 0, 0, 0, 0, 0, 0, 0);
        told("[-5 -5 5 5]", 0, 0);
        state("[-5 -5 4]");
        state("[-5 -2 1]");
    }

    private static void promise14BelowOnTheWay() {
        told("[-1 1]", 0, 0);
        told("[-5 5]", 0, 0);
        told("[-5 1]", 4, 0, 0, 0, 0, 0);
        told("[-2 1]", 1, 0);
        told("[-2 2 -1]", 1, 0);
        told("[0 -1 1]", 0, 0);
        told("9[-1 1]+5[]", 0, 5);
        told("5[]+9[-1 1]", 0, 5);
        told("[-1 1]+[-1 1]", 0, 0);
        told("[-3 2 -1]+4[-1 -1]", 2, 0, 4);
    }

    private static void promise14UnlikeLevels() {
        state("[]+[-1]");
        state("[-1]+[]");
        state("[-1]+[-1]+[-2]");
        state("[-1]+[-2]+[-1]");
        state("[]+[1]");
        state("[1]+[1]");
        // 0 as VECTORS, the one or the other or both.
        state("[-1 1]+[-1]");
        state("[-1]+[-1 1]");
        state("[-2 1]+[-2]");
        state("[-2]+[-2 1]");
        state("[-2 1]+[-1 1]");
    }

    private static void promise14LastFirst() {
        told("[-1 -2]", 3, 1, 1, 0);
        told("[-2 -1]", 3, 0, 1, 0);
        told("[1 0 -1]", 0, 14 * 8 % 101);
        told("[0 1 -1]", 0, 14 * 7 % 101);
    }

    private static void promise14HundredAndOneIsNought() {
        told("99[]+[]", 0, 100);
        told("99[]+2[]", 0, 0);
        told("99[]+3[]", 0, 1);
        told("99[]+99[]+99[]", 0, 297 - 202);
        told("99[0]", 0, 99 * 7 % 101);
    }

    private static void promise14NoSuchVector() {
        for (String text : new String[] {"", "[]", "[-1 -1", "x", "[1]", "[-5 -5]", "9" + ALMOST}) {
            LevelLadders x = new LevelLadders();
            LevelLadders y = new LevelLadders();
            Due.feed(x, text);
            due.each("14: read of " + text, NO_VECTOR, -1, x::read);
            due.same("14: THE TAPE stays, " + text, x.count(1), text.length());
            due.same("14: as if not read, " + text, x.read(3), Due.read(y, 3, text));
            due.same("14: then it is empty", x.count(1), 0);
        }
    }

    private static void promise14FedAgain() {
        LevelLadders x = new LevelLadders();
        for (String text : new String[] {"[-1]", "[-", "[1]", "", "9" + ALMOST}) {
            due.same("14: first behind another", x.feed('['), 1);
            due.same("14: second", x.feed(']'), 2);
            due.same("14: read behind another", x.read(0), 0);
            Due.read(x, 1, text);
        }
        due.same("14: VECTOR 0", x.coordinate(0, 0), 1);
        due.same("14: VECTOR 1 as it was told last", x.level(1), 0);
    }
}
