import java.io.IOException;
import java.lang.reflect.Constructor;
import java.lang.reflect.Field;
import java.lang.reflect.Method;
import java.lang.reflect.Modifier;
import java.nio.file.Files;
import java.nio.file.Path;
import java.util.ArrayList;
import java.util.List;
import java.util.Map;
import java.util.Set;
import java.util.TreeSet;

/** The document's face, and what of ../shared/LANGUAGE.md can be seen from the class and its file. */
public final class FaceTest {
    private static final Due due = new Due();
    private static final String[] FACE = {
        "int set(int,int)", "int of(int)", "int bracket(int,int,int)", "int partition(int,int,int)",
        "int act(int,int,int,int)", "int form(int,int,int)", "int determinant(int)", "int rank(int)",
        "int zeros(int,int)", "int vanishing(int,int)", "int were(int,int,int)", "int feed(int)", "int read(int)",
        "int become(int,int,int)", "int level(int)", "int coordinate(int,int)", "int put(int,int,int)",
        "int raise(int,int)", "int add(int,int,int)", "int product(int,int)", "int isLowest(int)",
        "long odds(int,int,int,int)", "int plan(int,int)", "int behind(int,int)", "int write(int)", "int paper(int)",
        "int judge(int,int)", "int list(int,int)", "int lay(int,int,long)", "long get(int,int)", "int image()",
        "int undo()", "int count(int)",
    };
    private static final String[] NOT_ALLOWED = {
        "throw", "try", "catch", "synchronized", "assert", "import", "package", "->", "::", "@", "protected",
        "Exact", "var ", "static {", "instanceof",
    };

    public static void main(String[] args) throws IOException {
        methods();
        constants();
        members();
        inTheDocumentsOrder();
        words();
        due.end("FaceTest");
    }

    private static boolean isOpen(int modifiers) {
        return !Modifier.isPrivate(modifiers);
    }

    private static void methods() {
        Set<String> wants = new TreeSet<>(List.of(FACE));
        Set<String> names = new TreeSet<>();
        Set<String> got = new TreeSet<>();
        for (Method method : LevelLadders.class.getDeclaredMethods()) {
            if (isOpen(method.getModifiers())) {
                String whole = method.toString();
                got.add(whole.replace("public ", "").replace("LevelLadders.", ""));
                names.add(method.getName());
            }
        }
        same("methods " + got, got.equals(wants));
        for (Class<?> inside : LevelLadders.class.getDeclaredClasses()) {
            for (Method method : inside.getDeclaredMethods()) {
                same("name " + method, !names.contains(method.getName()));
            }
        }
        for (Method method : LevelLadders.class.getDeclaredMethods()) {
            same("name " + method, isOpen(method.getModifiers()) || !names.contains(method.getName()));
            same("parameters of " + method, method.getParameterCount() <= 7);
        }
    }

    private static void constants() {
        due.same("NONE", LevelLadders.NONE, -1);
        due.same("BAD", LevelLadders.BAD, -2);
        due.same("STATE", LevelLadders.STATE, -3);
        due.same("FULL", LevelLadders.FULL, -4);
        due.same("NOT", LevelLadders.NOT, -5);
        due.same("NO", LevelLadders.NO, Long.MIN_VALUE);
        for (Field field : LevelLadders.class.getFields()) {
            int modifiers = field.getModifiers();
            Class<?> type = field.getName().equals("NO") ? long.class : int.class;
            same("public static final " + field, modifiers == (Modifier.PUBLIC | Modifier.STATIC | Modifier.FINAL));
            same("type of " + field, field.getType() == type);
        }
    }

    private static void members() {
        Set<String> open = new TreeSet<>();
        for (Field field : LevelLadders.class.getDeclaredFields()) {
            if (isOpen(field.getModifiers())) {
                open.add(field.getName());
            }
        }
        same("fields " + open, open.equals(new TreeSet<>(List.of("NONE", "BAD", "STATE", "FULL", "NOT", "NO"))));
        Constructor<?>[] constructors = LevelLadders.class.getDeclaredConstructors();
        due.same("constructors", constructors.length, 1);
        same("public constructor", Modifier.isPublic(constructors[0].getModifiers()));
        same("constructor " + constructors[0], constructors[0].toString().equals("public LevelLadders()"));
        int modifiers = LevelLadders.class.getModifiers();
        same("public and final", modifiers == (Modifier.PUBLIC | Modifier.FINAL));
        same("of no other class", LevelLadders.class.getSuperclass() == Object.class);
        same("of no interface", LevelLadders.class.getInterfaces().length == 0);
        Class<?>[] insides = LevelLadders.class.getDeclaredClasses();
        same("classes", insides.length <= 12);
        for (Class<?> inside : insides) {
            same("static " + inside, Modifier.isStatic(inside.getModifiers()));
            same("not for all " + inside, (inside.getModifiers() & (Modifier.PUBLIC | Modifier.PROTECTED)) == 0);
            same("fields of " + inside, inside.getDeclaredFields().length <= 20);
        }
    }

    /** The file tells the methods in the document's order, with its headings ahead of the calls that it names. */
    private static void inTheDocumentsOrder() throws IOException {
        Map<String, String> headings = Map.of("set", "the law", "partition", "levels", "feed", "vectors", "odds",
            "draws, plans, written", "judge", "lists, the image");
        List<String> told = new ArrayList<>();
        for (String line : Files.readAllLines(Path.of(Source.FILE))) {
            if (line.matches("    // ---- .*")) {
                told.add(line.trim());
            } else if (line.matches("    public (int|long) \\w+\\(.*")) {
                told.add(line.replaceAll(".* (\\w+)\\(.*", "$1"));
            }
        }
        List<String> wants = new ArrayList<>();
        for (String method : FACE) {
            String name = method.replaceAll(".* (\\w+)\\(.*", "$1");
            if (headings.containsKey(name)) {
                wants.add("// ---- " + headings.get(name));
            }
            wants.add(name);
        }
        same("in the document's order: " + told, told.equals(wants));
    }

    private static void words() throws IOException {
        for (String line : Files.readAllLines(Path.of(Source.FILE))) {
            String code = line.replaceAll("//.*|^ */?\\*.*", "");
            for (String word : NOT_ALLOWED) {
                same(word + " in: " + line, !code.contains(word));
            }
            for (int i = 0; i < line.length(); i++) {
                same("sign in: " + line, line.charAt(i) < 128);
            }
        }
    }

    private static void same(String what, boolean held) {
        due.same(what, held ? 1 : 0, 1);
    }
}
