import java.io.IOException;
import java.lang.reflect.Constructor;
import java.lang.reflect.Field;
import java.lang.reflect.Method;
import java.lang.reflect.Modifier;
import java.nio.file.Files;
import java.nio.file.Path;
import java.util.Set;
import java.util.TreeSet;
import java.util.regex.Matcher;
import java.util.regex.Pattern;

/** The face of the document, rules of LANGUAGE.md that a test can see, and calls in every state. */
public final class RuleTests {
    private static final String SOURCE = "src/main/java/SpeedRows.java";
    private static final int[] WILD = {
        Integer.MIN_VALUE, Integer.MIN_VALUE + 1, -100001, -2001, -2, -1, 0, 1, 2, 1999, 2000, 2001, 2002,
        9999, 10000, 10001, 99999, 100000, 100001, Integer.MAX_VALUE - 1, Integer.MAX_VALUE};
    private static int wrong = 0;

    private static void hold(String rule, boolean holds) {
        if (!holds) {
            wrong++;
            System.out.println("not so: " + rule);
        }
    }

    private static void face() {
        Set<String> found = new TreeSet<>();
        Set<String> hidden = new TreeSet<>();
        Set<String> open = new TreeSet<>();
        for (Method method : SpeedRows.class.getDeclaredMethods()) {
            if (Modifier.isPrivate(method.getModifiers())) {
                hidden.add(method.getName());
            } else {
                found.add(method.toString());
                open.add(method.getName());
            }
        }
        Set<String> want = new TreeSet<>(Set.of(
                "public boolean SpeedRows.first(int,int,int)",
                "public boolean SpeedRows.last(int,int,int)",
                "public int SpeedRows.move(int,int)",
                "public int SpeedRows.back(int)",
                "public boolean SpeedRows.acceleration(int)",
                "public int SpeedRows.limit(int)",
                "public int SpeedRows.speed(int)",
                "public long SpeedRows.sum()",
                "public int SpeedRows.below()"));
        hold("the methods are " + want + ", found are " + found, found.equals(want));
        hidden.retainAll(open);
        hold("no private method bears a public one's name: " + hidden, hidden.isEmpty());
        Constructor<?>[] constructors = SpeedRows.class.getDeclaredConstructors();
        hold("one public constructor without arguments", constructors.length == 1
                && constructors[0].toString().equals("public SpeedRows()"));
        hold("the class is public and final",
                SpeedRows.class.getModifiers() == (Modifier.PUBLIC | Modifier.FINAL));
        hold("the class stands by itself", SpeedRows.class.getSuperclass() == Object.class
                && SpeedRows.class.getInterfaces().length == 0 && SpeedRows.class.getPackageName().isEmpty());
        for (Field field : SpeedRows.class.getDeclaredFields()) {
            int kind = field.getModifiers();
            hold(field + " is private", Modifier.isPrivate(kind));
            hold(field + " is final if static", !Modifier.isStatic(kind) || Modifier.isFinal(kind));
        }
    }

    private static void source() throws IOException {
        String text = Files.readString(Path.of(SOURCE)).replaceAll("//[^\n]*|(?s)/\\*.*?\\*/", "");
        String[] refused = {
            "package", "import", "throw", "throws", "try", "catch", "synchronized", "assert",
            "->", "::", "Exact", "sqrt", "System\\.(?!arraycopy)"};
        for (String word : refused) {
            String pattern = Character.isLetter(word.charAt(0)) && word.equals(word.toLowerCase())
                    ? "(?s).*\\b" + word + "\\b.*" : "(?s).*" + word + ".*";
            hold("the source has no " + word, !text.matches(pattern));
        }
        library(text);
    }

    /** Rule 4: what the class needs of the library today; a name more is looked up in the rule first. */
    private static void library(String text) {
        Matcher use = Pattern.compile("\\b([A-Z]\\w*[a-z]\\w*\\.\\w+)").matcher(text);
        while (use.find()) {
            hold("the library has " + use.group(1), Set.of("Math.max", "Math.min").contains(use.group(1)));
        }
        Matcher made = Pattern.compile("\\bnew (\\w+.)").matcher(text);
        while (made.find()) {
            hold("rows of int alone are made: " + made.group(1), made.group(1).equals("int["));
        }
    }

    /** Rule 11: parameters, fields and, by the braces at the margin of the class, the lines of a method. */
    private static void sizes() throws IOException {
        for (Method method : SpeedRows.class.getDeclaredMethods()) {
            hold(method + " has at most seven parameters", method.getParameterCount() <= 7);
        }
        int fields = 0;
        for (Field field : SpeedRows.class.getDeclaredFields()) {
            fields += Modifier.isStatic(field.getModifiers()) ? 0 : 1;
        }
        hold("at most twenty fields", fields <= 20);
        int since = 0;
        for (String line : Files.readAllLines(Path.of(SOURCE))) {
            since = line.equals("    }") ? 0 : since + 1;
            hold("a method of at most sixty lines", since <= 60);
        }
    }

    private static void askAll(SpeedRows rows, int moves) {
        for (int value : WILD) {
            boolean corner = value >= 0 && value <= moves;
            hold("limit(" + value + ") of " + moves, rows.limit(value) >= 0 == corner);
            hold("speed(" + value + ") of " + moves, rows.speed(value) >= 0 == corner);
            hold("limit(" + value + ") is not passed", rows.speed(value) <= rows.limit(value));
        }
        hold("sum() of " + moves, rows.sum() >= 0);
        hold("below() of " + moves, rows.below() >= 0 && rows.below() <= Math.max(0, moves - 1));
    }

    private static void wildArguments() {
        for (int moves = 0; moves < 3; moves++) {
            for (int p : WILD) {
                SpeedRows rows = new SpeedRows();
                for (int i = 0; i < moves; i++) {
                    rows.move(100000, 99999);
                }
                for (int q : WILD) {
                    rows.first(p, q, 0);
                    rows.first(q, p, q);
                    rows.last(0, p, q);
                    rows.last(p, 1, q);
                    rows.acceleration(q);
                }
                askAll(rows, moves);
                rows.back(p);
                askAll(rows, rows.back(0));
            }
        }
    }

    /** No answer is promised after 512 calls, but rule 7 lets no call throw in any state. */
    private static void fullPath() {
        SpeedRows rows = new SpeedRows();
        rows.acceleration(10000);
        for (int i = 1; i <= 2000; i++) {
            hold("move " + i, rows.move(100000, 99999) == i);
        }
        hold("no move 2001", rows.move(100000, 99999) == -1);
        askAll(rows, 2000);
        hold("back(2001)", rows.back(2001) == -1);
        hold("back(1)", rows.back(1) == 1999);
        hold("move 2000 again", rows.move(1, 1) == 2000);
        hold("no move 2001 again", rows.move(1, 1) == -1);
        askAll(rows, 2000);
        hold("back(2000)", rows.back(2000) == 0);
        askAll(rows, 0);
    }

    public static void main(String[] args) throws IOException {
        face();
        source();
        sizes();
        wildArguments();
        fullPath();
        System.out.println(wrong == 0 ? "all rules hold" : wrong + " rules do not hold");
        if (wrong != 0) {
            System.exit(1);
        }
    }
}
