import java.io.IOException;
import java.lang.reflect.Constructor;
import java.lang.reflect.Field;
import java.lang.reflect.Method;
import java.lang.reflect.Modifier;
import java.nio.file.Files;
import java.nio.file.Path;
import java.util.Set;
import java.util.TreeSet;
import java.util.regex.Matcher;
import java.util.regex.Pattern;

/** The public face, and what can be seen of LANGUAGE.md from outside. The first argument is the class's file. */
public final class FaceTest {
    private static final Check CHECK = new Check("face");
    private static final String[] FACE = {
        "sheet/3", "set/3", "copy/5", "drop/1", "engine/3", "adjust/3", "sicken/2", "twin/2", "clear/1", "number/2",
        "piston/2", "valve/3", "open/5", "event/4", "valves/2", "setting/2", "tune/1", "card/6", "look/6", "work/5",
        "find/5", "misfit/2", "named/3", "whose/4", "next/4", "run/6", "plan/2", "stoke/1", "minute/3", "fire/1",
        "kind/1", "is/2", "as/2", "ask/2", "trace/1", "count/1", "status/0"};

    private FaceTest() {
    }

    public static void main(String[] args) throws IOException, IllegalAccessException {
        constants();
        methods();
        nested();
        source(Files.readString(Path.of(args.length > 0 ? args[0] : "src/main/java/ValveShop.java")));
        CHECK.end();
    }

    private static void constants() throws IllegalAccessException {
        CHECK.due("NONE", ValveShop.NONE, -1000000);
        CHECK.due("BAD", ValveShop.BAD, -1000001);
        CHECK.due("STATE", ValveShop.STATE, -1000002);
        CHECK.due("FULL", ValveShop.FULL, -1000003);
        int shown = 0;
        for (Field field : ValveShop.class.getDeclaredFields()) {
            int with = field.getModifiers();
            shown += Modifier.isPrivate(with) ? 0 : 1;
            CHECK.due(field.getName() + " is no other static state", Modifier.isStatic(with) && !Modifier.isFinal(with) ? 1 : 0, 0);
        }
        CHECK.due("constants", shown, 4);
        CHECK.due("the class is public and final", ValveShop.class.getModifiers() & (Modifier.PUBLIC | Modifier.FINAL),
            Modifier.PUBLIC | Modifier.FINAL);
    }

    private static void methods() {
        Set<String> due = new TreeSet<>(Set.of(FACE));
        Set<String> names = new TreeSet<>();
        Set<String> hidden = new TreeSet<>();
        for (Method method : ValveShop.class.getDeclaredMethods()) {
            if (Modifier.isPrivate(method.getModifiers())) {
                hidden.add(method.getName());
                continue;
            }
            names.add(method.getName());
            CHECK.due(method.getName() + " is of the face", due.remove(method.getName() + "/" + method.getParameterCount()) ? 1 : 0, 1);
            CHECK.due(method.getName() + " answers an int", method.getReturnType() == int.class ? 1 : 0, 1);
            CHECK.due(method.getName() + " is public", Modifier.isPublic(method.getModifiers()) ? 1 : 0, 1);
        }
        CHECK.due("methods that are missing: " + due, due.size(), 0);
        for (Class<?> inner : ValveShop.class.getDeclaredClasses()) {
            for (Method method : inner.getDeclaredMethods()) {
                hidden.add(method.getName());
            }
        }
        hidden.retainAll(names);
        CHECK.due("methods that bear a public one's name: " + hidden, hidden.size(), 0);
        Constructor<?>[] makers = ValveShop.class.getDeclaredConstructors();
        CHECK.due("constructors", makers.length, 1);
        CHECK.due("of no parameter", makers[0].getParameterCount(), 0);
    }

    private static void nested() {
        Class<?>[] inside = ValveShop.class.getDeclaredClasses();
        CHECK.due("classes, twelve at most", inside.length + 1 <= 12 ? 1 : 0, 1);
        for (Class<?> inner : inside) {
            int with = inner.getModifiers();
            CHECK.due(inner.getName() + " is static", Modifier.isStatic(with) ? 1 : 0, 1);
            CHECK.due(inner.getName() + " is not shown", Modifier.isPublic(with) || Modifier.isProtected(with) ? 1 : 0, 0);
            CHECK.due(inner.getName() + " has twenty fields at most", inner.getDeclaredFields().length <= 20 ? 1 : 0, 1);
        }
    }

    private static void source(String text) {
        String bare = text.replaceAll("(?s)/\\*.*?\\*/", " ").replaceAll("//[^\n]*", " ");
        String[] ruledOut = {"throw", "throws", "try", "catch", "synchronized", "assert", "Random", "Thread", "System\\.out",
            "System\\.nanoTime", "currentTimeMillis", "hashCode", "package", "native", "volatile"};
        for (String word : ruledOut) {
            CHECK.due("the word " + word, Pattern.compile("\\b" + word + "\\b").matcher(bare).find() ? 1 : 0, 0);
        }
        CHECK.due("no lambda", bare.contains("->") || bare.contains("::") ? 1 : 0, 0);
        CHECK.due("no text joined by +", Pattern.compile("\"\\s*\\+|\\+\\s*\"").matcher(bare).find() ? 1 : 0, 0);
        Set<String> library = Set.of("java.util.Arrays", "java.util.ArrayList", "java.util.List", "java.util.Iterator");
        Matcher imports = Pattern.compile("import\\s+([\\w.*]+);").matcher(bare);
        while (imports.find()) {
            CHECK.due("import " + imports.group(1), library.contains(imports.group(1)) ? 1 : 0, 1);
        }
        methodLengths(bare);
    }

    /** A method's body begins on a line that is set in by 4 or 8 and ends with the brace below it. */
    private static void methodLengths(String bare) {
        String[] lines = bare.split("\n");
        for (int i = 0; i < lines.length; i++) {
            Matcher head = Pattern.compile("^( {4}| {8})\\S.*\\) \\{\\s*$").matcher(lines[i]);
            if (!head.matches()) {
                continue;
            }
            int end = i;
            while (end < lines.length && !lines[end].startsWith(head.group(1) + "}")) {
                end++;
            }
            CHECK.due("short enough: " + lines[i].trim(), end - i <= 60 ? 1 : 0, 1);
        }
    }
}
