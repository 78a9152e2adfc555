import java.io.IOException;
import java.nio.file.Files;
import java.nio.file.Path;
import java.util.ArrayDeque;
import java.util.Deque;
import java.util.List;
import java.util.Set;

/** What can be read of LANGUAGE.md's rules in the class's file, which is the first argument. */
public final class LanguageTest {
    private static final Check CHECK = new Check("language");
    private static final Set<String> RULED_OUT = Set.of("package", "throw", "throws", "try", "catch", "finally", "synchronized", "assert",
        "volatile", "native", "equals", "hashCode", "toString", "getClass", "Object", "Random", "Thread", "->", "::", "?:", "@");
    private static final Set<String> LIBRARY = Set.of("Arrays.fill", "Arrays.copyOf", "Arrays.copyOfRange", "System.arraycopy",
        "Math.min", "Math.max", "Math.abs", "Math.floorMod", "Math.floorDiv", "Integer.MAX_VALUE", "Integer.MIN_VALUE");
    private static final int MOST_PARAMETERS = 7, MOST_LINES = 60, MOST_DEEP = 8, MOST_CLASSES = 12;

    private LanguageTest() {
    }

    public static void main(String[] args) throws IOException {
        Source source = new Source(Files.readString(Path.of(args.length > 0 ? args[0] : "src/main/java/ValveShop.java")));
        CHECK.sentence("the file is read whole", () -> readWhole(source));
        CHECK.sentence("rules 2, 6, 13: what is ruled out stands nowhere", () -> ruledOut(source.signs));
        CHECK.sentence("rule 4: of the library only what is listed", () -> library(source.signs, source.classes));
        CHECK.sentence("rule 9: each for has its end, and there is no other loop", () -> loops(source.signs));
        CHECK.sentence("rule 11: seven parameters, sixty lines, twelve classes", () -> sizes(source));
        CHECK.sentence("rule 11: calls go eight deep", () -> depths(source.methods));
        CHECK.sentence("rule 12: objects are made by the constructor alone", () -> making(source.methods));
        CHECK.end();
    }

    private static void readWhole(Source source) {
        int methods = ValveShop.class.getDeclaredMethods().length;
        for (Class<?> inner : ValveShop.class.getDeclaredClasses()) {
            methods += inner.getDeclaredMethods().length;
        }
        CHECK.due("the first class is ValveShop", source.classes.indexOf("ValveShop"), 0);
        CHECK.due("classes", source.classes.size(), 1 + ValveShop.class.getDeclaredClasses().length);
        CHECK.due("methods", source.methods.stream().filter(m -> !m.makes()).count(), methods);
    }

    private static void ruledOut(List<String> signs) {
        for (String sign : signs) {
            CHECK.holds(sign + " is not ruled out", !RULED_OUT.contains(sign));
        }
        for (int i = 1; i + 1 < signs.size(); i++) {
            boolean text = signs.get(i - 1).startsWith("\"") || signs.get(i + 1).startsWith("\"");
            CHECK.holds("no text is joined by +", !(text && signs.get(i).equals("+")));
            CHECK.holds("no class without a name", !(signs.get(i).equals(")") && signs.get(i + 1).equals("{") && madeAhead(signs, i)));
        }
    }

    /** Whether the brackets that close at a place are those of a "new". */
    private static boolean madeAhead(List<String> signs, int closes) {
        int at = closes;
        int open = 0;
        do {
            open += signs.get(at).equals(")") ? 1 : signs.get(at).equals("(") ? -1 : 0;
            at--;
        } while (open > 0 && at > 0);
        return at > 0 && signs.get(at - 1).equals("new");
    }

    private static void library(List<String> signs, List<String> own) {
        for (int i = 0; i + 2 < signs.size(); i++) {
            boolean named = signs.get(i + 1).equals(".") && Character.isUpperCase(signs.get(i).charAt(0));
            if (named && !own.contains(signs.get(i)) && !signs.get(i + 2).equals("length")) {
                String name = signs.get(i) + "." + signs.get(i + 2);
                CHECK.holds(name + " is listed", LIBRARY.contains(name));
            }
            if (signs.get(i).equals("import")) {
                String name = String.join("", signs.subList(i + 1, i + signs.subList(i, signs.size()).indexOf(";")));
                CHECK.holds("import " + name, name.equals("java.util.Arrays"));
            }
        }
    }

    /** A for over a counter compares in its middle part; what is told to count on is its last part. */
    private static void loops(List<String> signs) {
        for (int i = 0; i < signs.size(); i++) {
            CHECK.holds("no " + signs.get(i), !signs.get(i).equals("while") && !signs.get(i).equals("do"));
            if (signs.get(i).equals("for")) {
                List<String> head = signs.subList(i + 1, i + signs.subList(i, signs.size()).indexOf("{"));
                int bound = head.indexOf(";") + 1;
                int step = bound + head.subList(bound, head.size()).indexOf(";") + 1;
                List<String> middle = head.subList(bound, step);
                boolean compares = middle.contains("<") || middle.contains("<=") || middle.contains(">=");
                CHECK.holds(String.join(" ", head), head.contains(":")
                    || compares && (head.get(step + 1).equals("++") || head.get(step + 1).equals("--")));
            }
        }
    }

    private static void sizes(Source source) {
        for (Source.Method method : source.methods) {
            CHECK.holds(told(method) + " takes seven parameters at most", method.parameters <= MOST_PARAMETERS);
            CHECK.holds(told(method) + " has sixty lines at most", method.lines <= MOST_LINES);
        }
        CHECK.holds("twelve classes at most", source.classes.size() <= MOST_CLASSES);
    }

    private static void depths(List<Source.Method> methods) {
        for (Source.Method method : methods) {
            int deep = deepest(method, methods, new ArrayDeque<>());
            CHECK.holds(told(method) + " goes " + deep + " deep", deep <= MOST_DEEP);
        }
    }

    /** How many calls stand open at once, whatever the ways taken inside; the library's count, too. */
    private static int deepest(Source.Method from, List<Source.Method> methods, Deque<Source.Method> open) {
        CHECK.holds(told(from) + " calls itself nowhere", !open.contains(from));
        if (open.contains(from)) {
            return MOST_DEEP;
        }
        open.push(from);
        int most = 0;
        for (String name : from.calls()) {
            most = Math.max(most, 1);
            for (Source.Method method : methods) {
                if (method.name.equals(name)) {
                    most = Math.max(most, deepest(method, methods, open));
                }
            }
        }
        open.pop();
        return most + 1;
    }

    private static void making(List<Source.Method> methods) {
        for (Source.Method method : methods) {
            CHECK.holds(told(method) + " makes nothing", method.makes() || !method.body.contains("new") && !method.body.contains("clone"));
        }
    }

    private static String told(Source.Method method) {
        return method.owner + "." + method.name + "()";
    }
}
