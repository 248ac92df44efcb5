import java.util.ArrayList;
import java.util.HashMap;
import java.util.List;
import java.util.Map;
import java.util.TreeMap;
import java.util.regex.Pattern;

/**
 * The document told once more, slowly and in another way: a vector is a map from rows of numbers to
 * COORDINATES, modes are done by the recursion of the document's words, determinants are sums over minors.
 */
final class Model {
    private static final long NO = Long.MIN_VALUE;
    private static final List<List<List<Integer>>> PARTITIONS = new ArrayList<>();
    private static final Pattern TERM = Pattern.compile("([1-9][0-9]?)?\\[((-[1-5]|[0-5])( (-[1-5]|[0-5]))*)?\\]");
    private static final Map<String, int[]> DETERMINANTS = new HashMap<>();

    static {
        for (int level = 0; level <= 5; level++) {
            List<List<Integer>> all = new ArrayList<>();
            partitions(level, level, new ArrayList<>(), all);
            PARTITIONS.add(all);
        }
    }

    private static final class Told {
        final int level;
        final Map<List<Integer>, Integer> numbers;

        Told(int level, Map<List<Integer>, Integer> numbers) {
            this.level = level;
            this.numbers = numbers;
        }
    }

    private int[] law = {0, 0, 0, 1};
    private Told[] vectors = new Told[4];
    private List<int[]> rows = new ArrayList<>();
    private int[] lawKept;
    private Told[] vectorsKept;
    private List<int[]> rowsKept;
    private String tape = "";
    private String page = "";
    private final long[][] lists = new long[4][];
    private final Map<String, Map<List<Integer>, Integer>> done = new HashMap<>();

    Model() {
        for (int i = 0; i < 4; i++) {
            vectors[i] = new Told(0, new HashMap<>());
        }
    }

    private static void partitions(int left, int most, List<Integer> begun, List<List<Integer>> all) {
        if (left == 0) {
            all.add(new ArrayList<>(begun));
        }
        for (int k = Math.min(left, most); k >= 1; k--) {
            begun.add(k);
            partitions(left - k, k, begun, all);
            begun.remove(begun.size() - 1);
        }
    }

    private static List<List<Integer>> all(int level) {
        return level < 0 || level > 5 ? new ArrayList<>() : PARTITIONS.get(level);
    }

    private static boolean isBasis(int level, int i) {
        return i >= 0 && i < all(level).size();
    }

    private static boolean in(long x, long least, long most) {
        return least <= x && x <= most;
    }

    private static int mod(long x) {
        return (int) (((x % 101) + 101) % 101);
    }

    private static int slope(int[] law, int m, int n) {
        return mod(law[0] >= 3 ? 0 : law[0] == 2 ? n - m : m - n);
    }

    private static int centre(int[] law, int m) {
        int charged = mod((long) law[1] * mod((long) m * m * m - m) * 59);
        int[] kinds = {0, charged, charged + law[3] * m, law[3] * m, 2 * law[3] * m};
        return mod(kinds[law[0]]);
    }

    private static void add(Map<List<Integer>, Integer> sum, Map<List<Integer>, Integer> more, long times) {
        for (Map.Entry<List<Integer>, Integer> one : more.entrySet()) {
            sum.put(one.getKey(), mod(sum.getOrDefault(one.getKey(), 0) + times * one.getValue()));
        }
        sum.values().removeIf(v -> v == 0);
    }

    private Map<List<Integer>, Integer> mode(int m, Map<List<Integer>, Integer> vector) {
        Map<List<Integer>, Integer> sum = new HashMap<>();
        for (Map.Entry<List<Integer>, Integer> one : vector.entrySet()) {
            add(sum, modeOfBasis(m, one.getKey()), one.getValue());
        }
        return sum;
    }

    private Map<List<Integer>, Integer> modeOfBasis(int m, List<Integer> basis) {
        String key = law[0] + " " + law[1] + " " + law[2] + " " + law[3] + " " + m + basis;
        Map<List<Integer>, Integer> known = done.get(key);
        if (known != null) {
            return known;
        }
        Map<List<Integer>, Integer> made = new HashMap<>();
        if (basis.isEmpty()) {
            if (m == 0) {
                add(made, Map.of(basis, 1), law[2]);
            } else if (m < 0) {
                made.put(List.of(-m), 1);
            }
        } else if (-m >= basis.get(0)) {
            List<Integer> joined = new ArrayList<>(basis);
            joined.add(0, -m);
            made.put(joined, 1);
        } else {
            int k = basis.get(0);
            List<Integer> rest = basis.subList(1, basis.size());
            add(made, mode(-k, modeOfBasis(m, rest)), 1);
            add(made, modeOfBasis(m - k, rest), slope(law, m, -k));
            if (m == k) {
                add(made, Map.of(rest, 1), centre(law, m));
            }
        }
        done.put(key, made);
        return made;
    }

    private int formOf(List<Integer> one, Map<List<Integer>, Integer> other) {
        Map<List<Integer>, Integer> left = other;
        for (int k : one) {
            left = mode(k, left);
        }
        return left.getOrDefault(List.<Integer>of(), 0);
    }

    private int[][] forms(int level) {
        List<List<Integer>> all = all(level);
        int[][] forms = new int[all.size()][all.size()];
        for (int i = 0; i < all.size(); i++) {
            for (int j = 0; j < all.size(); j++) {
                forms[i][j] = formOf(all.get(i), Map.of(all.get(j), 1));
            }
        }
        return forms;
    }

    /** The minor of the first rows and a choice of columns, each from those of one row less. */
    private static int minor(int[][] rows, int columns) {
        int[] minors = new int[1 << columns];
        minors[0] = 1;
        for (int chosen = 1; chosen < minors.length; chosen++) {
            int row = Integer.bitCount(chosen) - 1;
            int sign = row % 2 == 0 ? 1 : -1;
            for (int c = 0; c < columns && row < rows.length; c++) {
                if ((chosen >> c & 1) != 0) {
                    minors[chosen] = mod(minors[chosen] + (long) sign * rows[row][c] * minors[chosen & ~(1 << c)]);
                    sign = -sign;
                }
            }
        }
        return minors[minors.length - 1];
    }

    /** The rows that are free of those ahead of them. */
    private static List<int[]> freeRows(int[][] rows, int columns) {
        List<int[]> free = new ArrayList<>();
        List<int[]> reduced = new ArrayList<>();
        for (int[] row : rows) {
            int[] left = row.clone();
            for (int[] one : reduced) {
                int lead = lead(one);
                int times = left[lead];
                for (int c = 0; c < columns; c++) {
                    left[c] = mod((long) left[c] * one[lead] - (long) times * one[c]);
                }
            }
            if (lead(left) >= 0) {
                reduced.add(left);
                free.add(row);
            }
        }
        return free;
    }

    private static int lead(int[] row) {
        for (int c = 0; c < row.length; c++) {
            if (row[c] != 0) {
                return c;
            }
        }
        return -1;
    }

    private int[] determinants(int level) {
        String key = law[0] + " " + law[1] + " " + law[3] + " " + level;
        int[] known = DETERMINANTS.get(key);
        if (known == null) {
            known = new int[101];
            int h = law[2];
            for (law[2] = 0; law[2] <= 100; law[2]++) {
                known[law[2]] = minor(forms(level), all(level).size());
                done.clear();
            }
            law[2] = h;
            DETERMINANTS.put(key, known);
        }
        return known;
    }

    int set(int what, int v) {
        if (!in(what, 0, 3)) {
            return -1;
        }
        if (!in(v, 0, what == 0 ? 4 : 100)) {
            return -2;
        }
        int was = law[what];
        law[what] = v;
        return was;
    }

    int of(int what) {
        return in(what, 0, 3) ? law[what] : -1;
    }

    int bracket(int m, int n, int what) {
        if (!in(what, 0, 1)) {
            return -1;
        }
        if (!in(m, -5, 5) || !in(n, -5, 5)) {
            return -2;
        }
        return what == 0 ? slope(law, m, n) : centre(law, m);
    }

    int partition(int level, int i, int k) {
        if (!isBasis(level, i)) {
            return -1;
        }
        List<Integer> told = all(level).get(i);
        if (k == -1) {
            return told.size();
        }
        return in(k, 0, told.size() - 1) ? told.get(k) : -5;
    }

    int act(int m, int level, int i, int j) {
        if (!in(m, -5, 5) || !isBasis(level, i)) {
            return -1;
        }
        if (!in(level - m, 0, 5)) {
            return -3;
        }
        if (!isBasis(level - m, j)) {
            return -5;
        }
        return modeOfBasis(m, all(level).get(i)).getOrDefault(all(level - m).get(j), 0);
    }

    int form(int level, int i, int j) {
        if (!isBasis(level, i) || !isBasis(level, j)) {
            return -1;
        }
        return formOf(all(level).get(i), Map.of(all(level).get(j), 1));
    }

    int determinant(int level) {
        return in(level, 0, 5) ? minor(forms(level), all(level).size()) : -1;
    }

    int rank(int level) {
        return in(level, 0, 5) ? freeRows(forms(level), all(level).size()).size() : -1;
    }

    int zeros(int level, int i) {
        return were(level, 0, i);
    }

    int were(int level, int v, int i) {
        if (!in(level, 0, 5)) {
            return -1;
        }
        List<Integer> told = new ArrayList<>();
        int[] determinants = determinants(level);
        for (int h = 0; h <= 100; h++) {
            if (determinants[h] == v) {
                told.add(h);
            }
        }
        if (i == -1) {
            return told.size();
        }
        return in(i, 0, told.size() - 1) ? told.get(i) : -5;
    }

    int vanishing(int level, int i) {
        if (!in(level, 0, 5)) {
            return -1;
        }
        int size = all(level).size();
        List<int[]> rows = new ArrayList<>();
        for (int m = 1; m <= level; m++) {
            for (List<Integer> to : all(level - m)) {
                int[] row = new int[size];
                for (int j = 0; j < size; j++) {
                    row[j] = modeOfBasis(m, all(level).get(j)).getOrDefault(to, 0);
                }
                rows.add(row);
            }
        }
        List<int[]> free = freeRows(rows.toArray(new int[0][]), size);
        if (i == -1) {
            return size - free.size();
        }
        if (size - free.size() != 1 || !in(i, 0, size - 1)) {
            return -5;
        }
        return crossed(free, size)[i];
    }

    /** What stands across all rows, one less than columns: each number a minor without its column. */
    private static int[] crossed(List<int[]> rows, int size) {
        int[] crossed = new int[size];
        for (int left = 0; left < size; left++) {
            int[][] others = new int[size - 1][size - 1];
            for (int r = 0; r < size - 1; r++) {
                for (int c = 0; c < size - 1; c++) {
                    others[r][c] = rows.get(r)[c < left ? c : c + 1];
                }
            }
            crossed[left] = mod((left % 2 == 0 ? 1 : -1) * (long) minor(others, size - 1));
        }
        int first = crossed[lead(crossed)];
        int by = 1;
        while (mod((long) first * by) != 1) {
            by++;
        }
        for (int c = 0; c < size; c++) {
            crossed[c] = mod((long) crossed[c] * by);
        }
        return crossed;
    }

    int feed(int letter) {
        if (!in(letter, 1, 127)) {
            return -2;
        }
        if (tape.length() == 60) {
            return -4;
        }
        tape += (char) letter;
        return tape.length();
    }

    /** Whether some text goes on behind these bytes: it is tried with the few ends that can be needed. */
    private static boolean goesOn(String begun) {
        String[] ends = {"", "]", "1]", "[]", "-1]"};
        for (String end : ends) {
            if (isText(begun + end)) {
                return true;
            }
        }
        return false;
    }

    private static boolean isText(String text) {
        for (String term : text.split("\\+", -1)) {
            if (!TERM.matcher(term).matches()) {
                return false;
            }
        }
        return true;
    }

    int read(int vector) {
        if (!in(vector, 0, 3)) {
            return -1;
        }
        String text = tape;
        tape = "";
        for (int i = 0; i < text.length(); i++) {
            if (!goesOn(text.substring(0, i + 1))) {
                return -100 - i;
            }
        }
        if (!isText(text)) {
            return -100 - text.length();
        }
        Map<List<Integer>, Integer> sum = new HashMap<>();
        int level = -1;
        for (String term : text.split("\\+")) {
            int open = term.indexOf('[');
            int times = open == 0 ? 1 : Integer.parseInt(term.substring(0, open));
            String inside = term.substring(open + 1, term.length() - 1);
            String[] words = inside.isEmpty() ? new String[0] : inside.split(" ");
            Map<List<Integer>, Integer> its = new HashMap<>();
            its.put(List.of(), 1);
            int at = 0;
            for (int i = words.length - 1; i >= 0; i--) {
                int m = Integer.parseInt(words[i]);
                at -= m;
                if (at > 5) {
                    return -3;
                }
                its = at < 0 ? new HashMap<>() : mode(m, its);
            }
            if (at < 0 || level >= 0 && at != level) {
                return -3;
            }
            level = at;
            add(sum, its, times);
        }
        vectors[vector] = new Told(level, sum);
        return level;
    }

    int become(int vector, int level, int i) {
        if (!in(vector, 0, 3) || !isBasis(level, i)) {
            return -1;
        }
        vectors[vector] = new Told(level, Map.of(all(level).get(i), 1));
        return 1;
    }

    int level(int vector) {
        return in(vector, 0, 3) ? vectors[vector].level : -1;
    }

    int coordinate(int vector, int i) {
        if (!in(vector, 0, 3) || !isBasis(vectors[vector].level, i)) {
            return -1;
        }
        return coordinateOf(vectors[vector], i);
    }

    private static int coordinateOf(Told told, int i) {
        return isBasis(told.level, i) ? told.numbers.getOrDefault(all(told.level).get(i), 0) : 0;
    }

    int put(int vector, int i, int v) {
        int was = coordinate(vector, i);
        if (was < 0) {
            return -1;
        }
        if (!in(v, 0, 100)) {
            return -2;
        }
        Told told = vectors[vector];
        Map<List<Integer>, Integer> numbers = new HashMap<>(told.numbers);
        numbers.put(all(told.level).get(i), v);
        vectors[vector] = new Told(told.level, numbers);
        return was;
    }

    int raise(int vector, int m) {
        if (!in(vector, 0, 3) || !in(m, -5, 5)) {
            return -1;
        }
        int to = vectors[vector].level - m;
        if (!in(to, 0, 5)) {
            return -3;
        }
        vectors[vector] = new Told(to, mode(m, vectors[vector].numbers));
        return to;
    }

    private static Told added(Told one, Told other, int often) {
        Map<List<Integer>, Integer> sum = new HashMap<>(one.numbers);
        add(sum, other.numbers, often);
        return new Told(one.level, sum);
    }

    int add(int one, int other, int often) {
        if (!in(one, 0, 3) || !in(other, 0, 3)) {
            return -1;
        }
        if (!in(often, 0, 100)) {
            return -2;
        }
        if (vectors[one].level != vectors[other].level) {
            return -3;
        }
        vectors[one] = added(vectors[one], vectors[other], often);
        return vectors[one].level;
    }

    int product(int one, int other) {
        if (!in(one, 0, 3) || !in(other, 0, 3)) {
            return -1;
        }
        if (vectors[one].level != vectors[other].level) {
            return 0;
        }
        long sum = 0;
        for (Map.Entry<List<Integer>, Integer> its : vectors[one].numbers.entrySet()) {
            sum += (long) its.getValue() * formOf(its.getKey(), vectors[other].numbers);
        }
        return mod(sum);
    }

    int isLowest(int vector) {
        if (!in(vector, 0, 3)) {
            return -1;
        }
        for (int m = 1; m <= 5; m++) {
            if (!mode(m, new HashMap<>(vectors[vector].numbers)).isEmpty()) {
                return 0;
            }
        }
        return 1;
    }

    long odds(int n, int seed, int m, int part) {
        if (!in(n, 1, 9) || !in(m, 1, 30) || !in(part, 0, 1)) {
            return NO;
        }
        int ended = 0;
        for (int s = 0; s < m; s++) {
            int z = seed + s;
            int level = 0;
            Map<List<Integer>, Integer> its = Map.of(List.of(), 1);
            for (int i = 0; i < n; i++) {
                z = z * 1103515245 + 12345;
                int mode = (z >>> 16) % 5 - 2;
                if (level - mode <= 5) {
                    level -= mode;
                    its = level < 0 ? Map.of() : mode(mode, its);
                }
            }
            ended += its.isEmpty() ? 1 : 0;
        }
        int shared = java.math.BigInteger.valueOf(ended).gcd(java.math.BigInteger.valueOf(m)).intValue();
        return (part == 0 ? ended : m) / shared;
    }

    int plan(int what, int v) {
        if (what == -1) {
            rows = new ArrayList<>();
            return 0;
        }
        if (!in(what, 0, 2)) {
            return -1;
        }
        int[][] bounds = {{-5, 5}, {0, 100}, {0, 3}};
        if (!in(v, bounds[what][0], bounds[what][1])) {
            return -2;
        }
        if (rows.size() == 8) {
            return -4;
        }
        rows.add(new int[] {what, v});
        return rows.size();
    }

    int behind(int vector, int i) {
        if (!in(vector, 0, 3)) {
            return -1;
        }
        Told told = vectors[vector];
        for (int[] row : rows) {
            if (row[0] == 0 && told.level - row[1] <= 5) {
                boolean under = told.level < row[1];
                told = under ? new Told(0, Map.of()) : new Told(told.level - row[1], mode(row[1], told.numbers));
            } else if (row[0] == 1) {
                told = added(new Told(told.level, Map.of()), told, row[1]);
            } else if (row[0] == 2 && vectors[row[1]].level == told.level) {
                told = added(told, vectors[row[1]], 1);
            }
        }
        if (i == -1) {
            return told.level;
        }
        return isBasis(told.level, i) ? coordinateOf(told, i) : -5;
    }

    int write(int vector) {
        if (!in(vector, 0, 3)) {
            return -1;
        }
        List<String> terms = new ArrayList<>();
        for (int i = 0; i < all(vectors[vector].level).size(); i++) {
            int v = coordinateOf(vectors[vector], i);
            List<String> modes = new ArrayList<>();
            for (int k : all(vectors[vector].level).get(i)) {
                modes.add("-" + k);
            }
            if (v != 0) {
                terms.add((v == 1 ? "" : "" + v) + "[" + String.join(" ", modes) + "]");
            }
        }
        page = String.join("+", terms);
        return page.length();
    }

    int paper(int i) {
        return in(i, 0, page.length() - 1) ? page.charAt(i) : -1;
    }

    int judge(int list, int vector) {
        if (!in(list, 0, 3) || !in(vector, 0, 3)) {
            return -1;
        }
        if (lists[list] == null) {
            return -11;
        }
        for (int i = 0; i < lists[list].length; i++) {
            if (lists[list][i] != coordinateOf(vectors[vector], i)) {
                return i;
            }
        }
        return -5;
    }

    int list(int list, int n) {
        if (!in(list, 0, 3)) {
            return -1;
        }
        if (n > 12) {
            return -2;
        }
        if (n < 0) {
            return -14;
        }
        lists[list] = new long[n];
        return 1;
    }

    int lay(int list, int i, long v) {
        if (!in(list, 0, 3)) {
            return -1;
        }
        if (lists[list] == null) {
            return -11;
        }
        if (!in(i, 0, lists[list].length - 1)) {
            return -13;
        }
        lists[list][i] = v;
        return 1;
    }

    long get(int list, int i) {
        if (!in(list, 0, 3) || lists[list] == null || !in(i, 0, lists[list].length - 1)) {
            return NO;
        }
        return lists[list][i];
    }

    int image() {
        lawKept = law.clone();
        vectorsKept = vectors.clone();
        rowsKept = new ArrayList<>(rows);
        return law[0];
    }

    int undo() {
        if (lawKept == null) {
            return -3;
        }
        law = lawKept.clone();
        vectors = vectorsKept.clone();
        rows = new ArrayList<>(rowsKept);
        return law[0];
    }

    int count(int what) {
        if (what == 0) {
            Map<String, Integer> filled = new TreeMap<>();
            for (int v = 0; v < 4; v++) {
                for (int i = 0; i < all(vectors[v].level).size(); i++) {
                    if (coordinateOf(vectors[v], i) != 0) {
                        filled.put(v + " " + i, 1);
                    }
                }
            }
            return filled.size();
        }
        return what == 1 ? tape.length() : what == 2 ? page.length() : what == 3 ? rows.size() : -2;
    }
}
