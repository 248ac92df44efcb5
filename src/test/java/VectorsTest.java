/** Promises 13 to 22: feed, read, become, level, coordinate, put, raise, add, product, isLowest. */
public final class VectorsTest {
    private static final Due due = new Due();
    private static final int[] FAR = {-1, 4, Integer.MIN_VALUE, Integer.MAX_VALUE};

    public static void main(String[] args) {
        promise13Feed();
        promise14ReadWhole();
        promise14ReadByLaw();
        promise14Faults();
        promise14FaultOfEachByte();
        promise14States();
        promise14WhatStays();
        promise15Become();
        promise16Level();
        promise17Coordinate();
        promise18Put();
        promise19Raise();
        promise19RaiseByLaw();
        promise20Add();
        promise21Product();
        promise22IsLowest();
        due.end("VectorsTest");
    }

    private static void promise13Feed() {
        LevelLadders x = new LevelLadders();
        int[] bad = {0, 128, -1, 256 + 65, Integer.MIN_VALUE, Integer.MAX_VALUE};
        for (int letter : bad) {
            due.same("13: feed(" + letter + ")", x.feed(letter), -2);
        }
        due.same("13: none came", x.count(1), 0);
        due.same("13: lowest", x.feed(1), 1);
        due.same("13: highest", x.feed(127), 2);
        for (int i = 3; i <= 60; i++) {
            due.same("13: the " + i + "th", x.feed(91), i);
        }
        due.same("13: the 61st", x.feed(91), -4);
        due.same("13: BAD ahead of FULL", x.feed(0), -2);
        due.same("13: full", x.count(1), 60);
        due.same("13: read", x.read(0), -100);
        due.same("13: empty behind read", x.feed(91), 1);
    }

    private static void told(LevelLadders x, String text, int answer, long... wants) {
        due.same("14: " + text, Due.read(x, 3, text), answer);
        due.row("14: " + text, Due.coordinates(x, 3), wants);
        due.same("14: THE TAPE is empty behind " + text, x.count(1), 0);
    }

    private static void promise14ReadWhole() {
        LevelLadders x = Due.withLaw(1, 26, 7, 1);
        told(x, "[]", 0, 1);
        told(x, "7[]", 0, 7);
        told(x, "99[]+3[]", 0, 1);
        told(x, "10[-1]", 1, 10);
        told(x, "[0]", 0, 7);
        told(x, "[0 0 0]", 0, Due.mod(343));
        told(x, "[-5]", 5, 1, 0, 0, 0, 0, 0, 0);
        told(x, "[-1 -1 -1 -1 -1]", 5, 0, 0, 0, 0, 0, 0, 1);
        told(x, "[-3 -2]+2[-2 -2 -1]+3[-4 -1]", 5, 0, 3, 1, 0, 2, 0, 0);
        told(x, "[-2 -3]", 5, 1, 0, 1, 0, 0, 0, 0);
        told(x, "[-1 -2]", 3, 1, 1, 0);
        told(x, "[0 -2]", 2, 9, 0);
        told(x, "5[-1 0]", 1, 35);
        told(x, "[1 -1]", 0, 14);
        told(x, "[1 1 -1 -1]", 0, Due.mod(4 * 7 * 15));
        told(x, "[2 -2]", 0, 41);
        told(x, "[1 -2]", 1, 3);
        told(x, "[-5 5 -5]", 5, Due.mod(70 + 260), 0, 0, 0, 0, 0, 0);
        told(x, "[-1 1]", 0, 0);
        told(x, "[-3 2 -1]", 2, 0, 0);
        told(x, "[-2 2]+4[]", 0, 4);
        told(x, "[0 0 0 0 0 0 0 0 0 0 0 0 0 0 0 0 0 0 0 0 0 0 0 0 0 0 0 0 0]", 0, Due.power(7, 29));
        told(x, "[1 -1 1 -1 1 -1 1 -1 1 -1 1 -1 1 -1 1 -1 1 -1 1 -1 0 0 0]", 0, Due.power(14, 10) * Due.power(7, 3) % 101);
        told(x, "99[-1]+2[-1]", 1, 0);
    }

    private static void promise14ReadByLaw() {
        LevelLadders x = Due.withLaw(3, 26, 7, 5);
        told(x, "[-2 -3]", 5, 0, 0, 1, 0, 0, 0, 0);
        told(x, "[1 -1 -1]", 1, 10);
        x.set(0, 4);
        told(x, "[1 -1 -1]", 1, 20);
        x.set(0, 2);
        told(x, "[-2 -3]", 5, 100, 0, 1, 0, 0, 0, 0);
        told(x, "[0 -2]", 2, 5, 0);
        x.set(2, 50);
        due.same("14: as it was when it was read", x.coordinate(3, 0), 5);
        told(x, "[0 -2]", 2, 48, 0);
    }

    private static void fault(String text, int place) {
        LevelLadders x = new LevelLadders();
        x.become(2, 4, 3);
        due.same("14: " + text, Due.read(x, 2, text), -100 - place);
        due.same("14: LEVEL stays at " + text, x.level(2), 4);
        due.row("14: stays at " + text, Due.coordinates(x, 2), 0, 0, 0, 1, 0);
        due.same("14: THE TAPE is empty behind " + text, x.count(1), 0);
    }

    private static void promise14Faults() {
        fault("", 0);
        fault(" []", 0);
        fault("[", 1);
        fault("7", 1);
        fault("71", 2);
        fault("712[]", 2);
        fault("0[]", 0);
        fault("01[]", 0);
        fault("[]+", 3);
        fault("[]+[]+", 6);
        fault("[]++[]", 3);
        fault("+[]", 0);
        fault("[][]", 2);
        fault("[] +[]", 2);
        fault("[]+ []", 3);
        fault("[ ]", 1);
        fault("[ -1]", 1);
        fault("[-1 ]", 4);
        fault("[-1  -1]", 4);
        fault("[-", 2);
        fault("[-0]", 2);
        fault("[--1]", 2);
        fault("[-]", 2);
        fault("[-6]", 2);
        fault("[6]", 1);
        fault("[-11]", 3);
        fault("[00]", 2);
        fault("[+1]", 1);
        fault("[0 -0]", 4);
        fault("[-1 -1", 6);
        fault("[-1,-1]", 3);
        fault("[-1]]", 4);
        fault("[[]", 1);
        fault("3 []", 1);
        fault("-[]", 0);
        fault("[]+0[]", 3);
        fault("[-1]\n", 4);
        // FAULT comes ahead of STATE.
        fault("[1]+", 4);
        fault("[-5 -5]x", 7);
        fault("[-1]+[-2]-", 9);
        fault("[0 0 0 0 0 0 0 0 0 0 0 0 0 0 0 0 0 0 0 0 0 0 0 0 0 0 0 0 0 0", 60);
    }

    /** By each byte that may come behind the beginnings of a text: whether the text can go on with it. */
    private static void promise14FaultOfEachByte() {
        String[] begun = {"", "4", "40", "[", "[-", "[-2", "[3", "[3 ", "[3 -", "[]", "[]+"};
        String[] goOn = {
            "123456789[", "0123456789[", "[", "]-012345", "12345", " ]", " ]", "-012345", "12345", "+", "123456789[",
        };
        for (int t = 0; t < begun.length; t++) {
            for (int letter = 1; letter <= 127; letter++) {
                if (goOn[t].indexOf(letter) < 0) {
                    fault(begun[t] + (char) letter, begun[t].length());
                } else if (t < 9 && !(t > 2 && letter == ']')) {
                    fault(begun[t] + (char) letter, begun[t].length() + 1);
                }
            }
        }
    }

    private static void state(String text) {
        LevelLadders x = Due.withLaw(1, 26, 7, 1);
        x.become(2, 4, 3);
        due.same("14: " + text, Due.read(x, 2, text), -3);
        due.same("14: LEVEL stays at " + text, x.level(2), 4);
        due.row("14: stays at " + text, Due.coordinates(x, 2), 0, 0, 0, 1, 0);
        due.same("14: THE TAPE is empty behind " + text, x.count(1), 0);
    }

    private static void promise14States() {
        state("[1]");
        state("[5]");
        state("[2 -1]");
        state("[-5 -1]");
        state("[-5 5 -5 -5]");
        state("[5 -3 -3]");
        state("[1 -5 -1]");
        state("[5 -5 -5 4]");
        state("[5 5 -5 -5]");
        state("[-1]+[-2]");
        state("[-2]+[-1]");
        state("[]+[-1]");
        state("[-1]+[]");
        // Told as 0, its LEVEL is another all the same.
        state("[-2 1]+[-2]");
        state("[-2]+[-2 1]");
        state("[-1]+[1]");
        state("[-1]+[-1]+[-1 -1]");
        state("[1]+[1]");
        state("[-1]+[-5 -1 5]+[-5 1 -5]");
        LevelLadders x = new LevelLadders();
        due.same("14: just high enough", Due.read(x, 0, "[5 -5 5 -5]"), 0);
        due.same("14: below on the way, high enough behind", Due.read(x, 0, "[-5 -3 3]"), 5);
        due.same("14: of it nothing", x.count(0), 0);
        due.same("14: below by all but one", Due.read(x, 0, "[-5 -5 5 5]"), 0);
    }

    private static void promise14WhatStays() {
        LevelLadders x = new LevelLadders();
        Due.feed(x, "[-1]");
        for (int vector : FAR) {
            due.same("14: read(" + vector + ")", x.read(vector), -1);
            due.same("14: THE TAPE stays", x.count(1), 4);
        }
        due.same("14: read(1)", x.read(1), 1);
        due.same("14: others stay", x.level(0) + x.level(2) + x.level(3), 0);
        x.become(1, 5, 6);
        due.same("14: in place of what it was", Due.read(x, 1, "2[-2]"), 2);
        due.row("14: in place of what it was", Due.coordinates(x, 1), 2, 0);
        due.same("14: none left behind", x.count(0), 1);
    }

    private static void promise15Become() {
        for (int vector = 0; vector < 4; vector++) {
            LevelLadders x = new LevelLadders();
            for (int level = 5; level >= 0; level--) {
                for (int i = 0; i < Due.sizeOf(level); i++) {
                    due.same("15: become", x.become(vector, level, i), 1);
                    due.same("15: LEVEL", x.level(vector), level);
                    for (int j = 0; j < Due.sizeOf(level); j++) {
                        due.same("15: COORDINATE " + j, x.coordinate(vector, j), i == j ? 1 : 0);
                    }
                }
                due.same("15: i behind", x.become(vector, level, Due.sizeOf(level)), -1);
                due.same("15: i below", x.become(vector, level, -1), -1);
                due.same("15: stays", x.level(vector), level);
            }
            due.same("15: level 6", x.become(vector, 6, 0), -1);
            due.same("15: level -1", x.become(vector, -1, 0), -1);
            due.same("15: one number", x.count(0), 1);
        }
        LevelLadders x = new LevelLadders();
        for (int vector : FAR) {
            due.same("15: vector " + vector, x.become(vector, 0, 0), -1);
            due.same("15: vector ahead of level", x.become(vector, 9, 0), -1);
        }
        due.same("15: no numbers", x.count(0), 0);
    }

    private static void promise16Level() {
        LevelLadders x = new LevelLadders();
        for (int vector = 0; vector < 4; vector++) {
            x.become(vector, 5 - vector, 0);
        }
        for (int vector = 0; vector < 4; vector++) {
            due.same("16: level(" + vector + ")", x.level(vector), 5 - vector);
        }
        for (int vector : FAR) {
            due.same("16: level(" + vector + ")", x.level(vector), -1);
        }
    }

    private static void promise17Coordinate() {
        LevelLadders x = new LevelLadders();
        x.become(1, 5, 2);
        x.put(1, 6, 44);
        due.row("17: all", Due.coordinates(x, 1), 0, 0, 1, 0, 0, 0, 44);
        for (int level = 0; level <= 5; level++) {
            x.become(1, level, 0);
            due.same("17: behind", x.coordinate(1, Due.sizeOf(level)), -1);
            due.same("17: below", x.coordinate(1, -1), -1);
            due.same("17: far", x.coordinate(1, Integer.MAX_VALUE), -1);
            due.same("17: far below", x.coordinate(1, Integer.MIN_VALUE), -1);
        }
        for (int vector : FAR) {
            due.same("17: vector " + vector, x.coordinate(vector, 0), -1);
        }
    }

    private static void promise18Put() {
        LevelLadders x = new LevelLadders();
        x.become(2, 3, 1);
        due.same("18: put(2, 0, 100)", x.put(2, 0, 100), 0);
        due.same("18: put(2, 0, 5)", x.put(2, 0, 5), 100);
        due.same("18: put(2, 1, 0)", x.put(2, 1, 0), 1);
        due.same("18: put(2, 2, 9)", x.put(2, 2, 9), 0);
        due.same("18: put(2, 2, 101)", x.put(2, 2, 101), -2);
        due.same("18: put(2, 2, -1)", x.put(2, 2, -1), -2);
        due.same("18: put(2, 3, 1)", x.put(2, 3, 1), -1);
        due.same("18: put(2, -1, 1)", x.put(2, -1, 1), -1);
        due.same("18: NONE ahead of BAD", x.put(2, 3, 101), -1);
        due.same("18: NONE ahead of BAD, vector", x.put(4, 0, -1), -1);
        for (int vector : FAR) {
            due.same("18: vector " + vector, x.put(vector, 0, 1), -1);
        }
        due.row("18: all", Due.coordinates(x, 2), 5, 0, 9);
        due.same("18: others stay", x.count(0), 2);
    }

    private static void promise19Raise() {
        LevelLadders x = Due.withLaw(1, 26, 7, 1);
        x.become(0, 0, 0);
        due.same("19: L(-2)", x.raise(0, -2), 2);
        due.same("19: L(-3)", x.raise(0, -3), 5);
        due.row("19: put ahead", Due.coordinates(x, 0), 0, 0, 1, 0, 0, 0, 0);
        due.same("19: L(-1) at the top", x.raise(0, -1), -3);
        due.same("19: L(0)", x.raise(0, 0), 5);
        due.same("19: h and the LEVEL times", x.coordinate(0, 2), 12);
        due.same("19: L(5)", x.raise(0, 5), 0);
        due.same("19: L(1) at the bottom", x.raise(0, 1), -3);
        x.become(1, 2, 1);
        x.put(1, 0, 3);
        due.same("19: all COORDINATES go along", x.raise(1, 1), 1);
        due.same("19: sum", x.coordinate(1, 0), 3 * 3 + 30);
        x.put(1, 0, 0);
        due.same("19: 0 cannot go above", x.raise(1, -5), -3);
        due.same("19: 0 cannot go below", x.raise(1, 2), -3);
        due.same("19: LEVEL stays", x.level(1), 1);
        due.same("19: 0 goes up as any other", x.raise(1, -4), 5);
        due.same("19: and stays 0", x.count(0), 1);
        int[] modes = {-6, 6, Integer.MIN_VALUE, Integer.MAX_VALUE};
        for (int m : modes) {
            due.same("19: m " + m, x.raise(0, m), -1);
        }
        for (int vector : FAR) {
            due.same("19: vector " + vector, x.raise(vector, 0), -1);
            due.same("19: vector ahead of STATE", x.raise(vector, 5), -1);
        }
        for (int level = 0; level <= 5; level++) {
            for (int m = -5; m <= 5; m++) {
                x.become(3, level, 0);
                boolean told = level - m >= 0 && level - m <= 5;
                due.same("19: LEVEL " + level + " by " + m, x.raise(3, m), told ? level - m : -3);
                due.same("19: then", x.level(3), told ? level - m : level);
            }
        }
    }

    private static void promise19RaiseByLaw() {
        for (int kind = 0; kind <= 4; kind++) {
            for (int level = 0; level <= 5; level++) {
                for (int m = Math.max(-5, level - 5); m <= level; m++) {
                    raiseAsActs(Due.withLaw(kind, 3, 4, 5), level, m);
                }
            }
        }
    }

    private static void raiseAsActs(LevelLadders x, int level, int m) {
        int size = Due.sizeOf(level);
        long[] wants = new long[Due.sizeOf(level - m)];
        x.become(0, level, 0);
        for (int i = 0; i < size; i++) {
            int times = (i * 37 + 90) % 101;
            x.put(0, i, times);
            for (int j = 0; j < wants.length; j++) {
                wants[j] = (wants[j] + times * x.act(m, level, i, j)) % 101;
            }
        }
        x.raise(0, m);
        due.row("19: LEVEL " + level + " by " + m, Due.coordinates(x, 0), wants);
    }

    private static void promise20Add() {
        LevelLadders x = new LevelLadders();
        x.become(0, 3, 0);
        x.become(1, 3, 1);
        x.put(1, 2, 50);
        due.same("20: add(0, 1, 3)", x.add(0, 1, 3), 3);
        due.row("20: add(0, 1, 3)", Due.coordinates(x, 0), 1, 3, 49);
        due.row("20: the other one stays", Due.coordinates(x, 1), 0, 1, 50);
        due.same("20: none", x.add(0, 1, 0), 3);
        due.row("20: none", Due.coordinates(x, 0), 1, 3, 49);
        due.same("20: to itself", x.add(0, 0, 1), 3);
        due.row("20: to itself", Due.coordinates(x, 0), 2, 6, 98);
        due.same("20: to itself 100 times", x.add(0, 0, 100), 3);
        due.row("20: to itself 100 times", Due.coordinates(x, 0), 0, 0, 0);
        due.same("20: often 101", x.add(0, 1, 101), -2);
        due.same("20: often -1", x.add(0, 1, -1), -2);
        due.same("20: LEVELS", x.add(0, 2, 1), -3);
        due.same("20: LEVELS, none added", x.add(0, 2, 0), -3);
        due.same("20: BAD ahead of STATE", x.add(0, 2, 101), -2);
        due.row("20: stays", Due.coordinates(x, 0), 0, 0, 0);
        for (int vector : FAR) {
            due.same("20: one " + vector, x.add(vector, 0, 1), -1);
            due.same("20: other " + vector, x.add(0, vector, 1), -1);
            due.same("20: NONE ahead of BAD", x.add(0, vector, 101), -1);
        }
        due.same("20: LEVEL 0", x.add(2, 3, 7), 0);
    }

    private static void promise21Product() {
        LevelLadders x = Due.withLaw(1, 3, 5, 1);
        x.become(0, 2, 0);
        x.put(0, 1, 3);
        x.become(1, 2, 1);
        due.same("21: product(0, 1)", x.product(0, 1), Due.mod(30 + 3 * 220));
        due.same("21: product(1, 0)", x.product(1, 0), Due.mod(30 + 3 * 220));
        due.same("21: with itself", x.product(1, 1), Due.mod(220));
        due.same("21: LEVELS", x.product(0, 2), 0);
        x.become(2, 0, 0);
        x.put(2, 0, 9);
        due.same("21: LEVEL 0", x.product(2, 2), 81);
        x.become(2, 5, 0);
        x.become(3, 5, 0);
        for (int i = 0; i < 7; i++) {
            x.put(2, i, 100 - i);
            x.put(3, i, 90 - 7 * i);
        }
        long all = 0;
        for (int i = 0; i < 7; i++) {
            for (int j = 0; j < 7; j++) {
                all += (100 - i) * (90 - 7 * j) * (long) x.form(5, i, j);
            }
        }
        due.same("21: LEVEL 5", x.product(2, 3), Due.mod(all));
        x.set(0, 3);
        due.same("21: by the LAW as it is", x.product(1, 1), 2);
        for (int vector : FAR) {
            due.same("21: one " + vector, x.product(vector, 0), -1);
            due.same("21: other " + vector, x.product(0, vector), -1);
        }
    }

    private static void promise22IsLowest() {
        LevelLadders x = Due.withLaw(1, 26, 0, 1);
        due.same("22: 0 of LEVEL 0", x.isLowest(0), 1);
        x.become(0, 0, 0);
        due.same("22: the LOWEST one", x.isLowest(0), 1);
        x.become(0, 1, 0);
        due.same("22: LEVEL 1, h 0", x.isLowest(0), 1);
        x.set(2, 1);
        due.same("22: LEVEL 1, h 1", x.isLowest(0), 0);
        x.put(0, 0, 0);
        due.same("22: 0 of LEVEL 1", x.isLowest(0), 1);
        for (int h = 0; h <= 100; h++) {
            for (int level = 1; level <= 5; level++) {
                lowestByNull(Due.withLaw(1, 26, h, 1), level);
            }
        }
        // By STRINGS each mode is alone: only L(4) tells the 4, only L(3) the 3.
        x = Due.withLaw(3, 0, 0, 1);
        for (int level = 1; level <= 5; level++) {
            for (int i = 0; i < Due.sizeOf(level); i++) {
                x.become(1, level, i);
                due.same("22: STRINGS", x.isLowest(1), 0);
            }
        }
        x.set(3, 0);
        due.same("22: FIGURE 0", x.isLowest(1), 1);
        for (int vector : FAR) {
            due.same("22: vector " + vector, x.isLowest(vector), -1);
        }
    }

    private static void lowestByNull(LevelLadders x, int level) {
        boolean told = x.vanishing(level, -1) == 1;
        x.become(1, level, 0);
        for (int i = 0; i < Due.sizeOf(level); i++) {
            x.put(1, i, told ? x.vanishing(level, i) : 0);
        }
        due.same("22: NULL is lowest", x.isLowest(1), 1);
        due.same("22: NULL is there", x.count(0) > 0 ? 1 : 0, told ? 1 : 0);
        x.put(1, 0, (x.coordinate(1, 0) + 1) % 101);
        due.same("22: beside it none is", x.isLowest(1), x.vanishing(level, -1) == 0 ? 0 : beside(x, level));
    }

    /** One more of the first BASIS VECTOR is NULL's like only where NULL is that BASIS VECTOR alone. */
    private static int beside(LevelLadders x, int level) {
        if (x.vanishing(level, -1) != 1 || x.vanishing(level, 0) != 1) {
            return 0;
        }
        for (int i = 1; i < Due.sizeOf(level); i++) {
            if (x.vanishing(level, i) != 0) {
                return 0;
            }
        }
        return 1;
    }
}
