/** What is asked changes nothing but THE PAPER, and what changes something changes that alone. */
public final class AskedTest {
    private static final Due due = new Due();

    public static void main(String[] args) {
        objectsAreAsMeant();
        lawIsAsked();
        levelsAreAsked();
        weightsAreAsked();
        vectorsAreAsked();
        drawsAndPlanAreAsked();
        paperIsAsked();
        listsAreAsked();
        lawChangesAlone();
        oneVectorChangesAlone();
        tapePlanAndPaperChangeAlone();
        oneListChangesAlone();
        imageHoldsNoMore();
        due.end("AskedTest");
    }

    private static void objectsAreAsMeant() {
        int[][] counts = {{0, 0, 0, 0}, {5, 7, 14, 3}, {10, 60, 94, 8}};
        for (int room = Twins.NEW; room <= Twins.FULL; room++) {
            LevelLadders x = Twins.made(room);
            for (int what = 0; what <= 3; what++) {
                due.same("34: count(" + what + ") of object " + room, x.count(what), counts[room][what]);
            }
            due.same("14: THE TAPE of object " + room, x.read(0), room == Twins.NEW ? -100 : 1);
            due.same("33: THE IMAGE of object " + room, x.undo(), room == Twins.NEW ? -3 : 1);
        }
    }

    private static void asks(String call, Twins.Call c) {
        Twins.changes(due, call, c);
    }

    private static void lawIsAsked() {
        for (int what = 0; what <= 3; what++) {
            int its = what;
            asks("3: of(" + its + ")", x -> x.of(its));
        }
        asks("4: bracket(5, -5, 0)", x -> x.bracket(5, -5, 0));
        asks("4: bracket(-5, 5, 1)", x -> x.bracket(-5, 5, 1));
    }

    private static void levelsAreAsked() {
        for (int level = 0; level <= 5; level++) {
            int its = level;
            int last = Due.sizeOf(level) - 1;
            asks("5: partition(" + its + ", last, -1)", x -> x.partition(its, last, -1));
            asks("5: partition(" + its + ", last, 0)", x -> x.partition(its, last, 0));
            asks("6: act(0, " + its + ", last, last)", x -> x.act(0, its, last, last));
            asks("6: act to LEVEL 5 from " + its, x -> x.act(its - 5, its, last, 6));
            asks("6: act to LEVEL 0 from " + its, x -> x.act(its, its, last, 0));
            asks("7: form(" + its + ", last, 0)", x -> x.form(its, last, 0));
            asks("8: determinant(" + its + ")", x -> x.determinant(its));
            asks("9: rank(" + its + ")", x -> x.rank(its));
        }
    }

    private static void weightsAreAsked() {
        for (int level = 0; level <= 5; level++) {
            int its = level;
            for (int i = -1; i <= 1; i++) {
                int place = i;
                String numbers = its + ", " + place + ")";
                asks("10: zeros(" + numbers, x -> x.zeros(its, place));
                asks("11: vanishing(" + numbers, x -> x.vanishing(its, place));
                asks("12: were by 1 (" + numbers, x -> x.were(its, 1, place));
            }
        }
    }

    private static void vectorsAreAsked() {
        for (int vector = 0; vector <= 3; vector++) {
            int its = vector;
            asks("16: level(" + its + ")", x -> x.level(its));
            asks("17: coordinate(" + its + ", 0)", x -> x.coordinate(its, 0));
            asks("21: product(" + its + ", 2)", x -> x.product(its, 2));
            asks("21: product of " + its + " with itself", x -> x.product(its, its));
            asks("22: isLowest(" + its + ")", x -> x.isLowest(its));
        }
    }

    private static void drawsAndPlanAreAsked() {
        asks("23: odds, above", x -> x.odds(9, Integer.MAX_VALUE, 30, 0));
        asks("23: odds, below", x -> x.odds(1, 0, 1, 1));
        for (int vector = 0; vector <= 3; vector++) {
            int its = vector;
            asks("25: behind(" + its + ", -1)", x -> x.behind(its, -1));
            asks("25: behind(" + its + ", 0)", x -> x.behind(its, 0));
        }
    }

    private static void paperIsAsked() {
        asks("27: paper(0)", x -> x.paper(0));
        asks("27: paper(5)", x -> x.paper(5));
        for (int what = 0; what <= 3; what++) {
            int its = what;
            asks("34: count(" + its + ")", x -> x.count(its));
        }
    }

    private static void listsAreAsked() {
        for (int list = 0; list <= 3; list++) {
            int its = list;
            asks("28: judge(" + its + ", 1)", x -> x.judge(its, 1));
            asks("28: judge(" + its + ", 2)", x -> x.judge(its, 2));
            asks("31: get(" + its + ", 0)", x -> x.get(its, 0));
            asks("31: get(" + its + ", 11)", x -> x.get(its, 11));
        }
    }

    private static void changes(String call, Twins.Call c, String... names) {
        Twins.changes(due, call, c, names);
    }

    private static void lawChangesAlone() {
        for (int what = 0; what <= 3; what++) {
            int its = what;
            changes("2: set(" + its + ", 4)", x -> x.set(its, 4), "LAW of(" + its, "BEHIND", "TAPE");
        }
    }

    private static void oneVectorChangesAlone() {
        for (int vector = 0; vector <= 2; vector++) {
            int its = vector;
            String[] names = {"VECTOR " + its, "COUNT", "BEHIND", "TAPE"};
            changes("14: read(" + its + ")", x -> x.read(its), "VECTOR " + its, "COUNT", "BEHIND", "TAPE", "FED");
            changes("15: become(" + its + ", 4, 2)", x -> x.become(its, 4, 2), names);
            changes("18: put(" + its + ", 0, 50)", x -> x.put(its, 0, 50), names);
            changes("19: raise(" + its + ", 0)", x -> x.raise(its, 0), names);
            changes("20: add(" + its + ", " + its + ", 1)", x -> x.add(its, its, 1), names);
        }
        changes("20: add(1, 3, 9)", x -> x.add(1, 3, 9), "VECTOR 1", "COUNT", "BEHIND", "TAPE");
    }

    private static void tapePlanAndPaperChangeAlone() {
        changes("13: feed(43)", x -> x.feed(43), "FED", "TAPE");
        changes("24: plan(-1, 0)", x -> x.plan(-1, 0), "PLAN", "BEHIND");
        changes("24: plan(0, -1)", x -> x.plan(0, -1), "PLAN", "BEHIND");
        for (int vector = 0; vector <= 3; vector++) {
            int its = vector;
            changes("26: write(" + its + ")", x -> x.write(its), "PAPER");
        }
    }

    private static void oneListChangesAlone() {
        for (int list = 0; list <= 3; list++) {
            int its = list;
            changes("29: list(" + its + ", 0)", x -> x.list(its, 0), "LIST " + its);
            changes("29: list(" + its + ", 12)", x -> x.list(its, 12), "LIST " + its);
            changes("30: lay(" + its + ", 2, -1)", x -> x.lay(its, 2, -1), "LIST " + its);
        }
    }

    /** THE IMAGE is the LAW, VECTORS and the PLAN: LISTS, THE TAPE and THE PAPER stay as they are. */
    private static void imageHoldsNoMore() {
        changes("32: image()", x -> x.image(), "IMAGE");
        changes("33: undo()", x -> x.undo(), "LAW", "VECTOR", "COUNT", "PLAN", "BEHIND", "TAPE");
    }
}
