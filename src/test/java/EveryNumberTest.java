/**
 * Each method by the numbers that its words tell, those beside them and the farthest, in all their joinings: the class
 * answers as the model does and never throws (rule 7 of ../shared/LANGUAGE.md).
 */
public final class EveryNumberTest {
    private static final Due due = new Due();

    public static void main(String[] args) {
        due.same("methods", Numbers.OF_METHODS.size(), 33);
        for (String name : Numbers.OF_METHODS.keySet()) {
            int[][] numbers = Numbers.OF_METHODS.get(name);
            for (int room = Pair.NEW; room < Pair.LAWS.length; room++) {
                joined(new Pair(due, room), name, numbers, 0, new int[numbers.length]);
            }
        }
        due.end("EveryNumberTest");
    }

    private static void joined(Pair pair, String name, int[][] numbers, int place, int[] told) {
        if (place == numbers.length) {
            pair.sameAnew(name, told);
            return;
        }
        for (int number : numbers[place]) {
            told[place] = number;
            joined(pair, name, numbers, place + 1, told);
        }
    }
}
