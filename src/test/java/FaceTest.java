import java.lang.reflect.Constructor;
import java.lang.reflect.Field;
import java.lang.reflect.Method;
import java.lang.reflect.Modifier;
import java.util.Set;
import java.util.TreeSet;

/** The public face, and what can be seen of LANGUAGE.md from outside. LanguageTest reads the file itself. */
public final class FaceTest {
    private static final Check CHECK = new Check("face");
    private static final String[] FACE = {
        "sheet/3", "set/3", "copy/5", "drop/1", "engine/3", "adjust/3", "sicken/2", "twin/2", "clear/1", "number/2",
        "piston/2", "valve/3", "open/5", "event/4", "valves/2", "setting/2", "tune/1", "card/6", "look/6", "work/5",
        "find/5", "misfit/2", "named/3", "whose/4", "next/4", "run/6", "plan/2", "stoke/1", "minute/3", "fire/1",
        "kind/1", "is/2", "as/2", "ask/2", "trace/1", "count/1", "status/0"};

    private FaceTest() {
    }

    public static void main(String[] args) throws IllegalAccessException {
        constants();
        methods();
        nested();
        CHECK.end();
    }

    private static void constants() throws IllegalAccessException {
        CHECK.due("NONE", ValveShop.NONE, -1000000);
        CHECK.due("BAD", ValveShop.BAD, -1000001);
        CHECK.due("STATE", ValveShop.STATE, -1000002);
        CHECK.due("FULL", ValveShop.FULL, -1000003);
        int shown = 0;
        for (Field field : ValveShop.class.getDeclaredFields()) {
            int with = field.getModifiers();
            shown += Modifier.isPrivate(with) ? 0 : 1;
            CHECK.due(field.getName() + " is no other static state", Modifier.isStatic(with) && !Modifier.isFinal(with) ? 1 : 0, 0);
        }
        CHECK.due("constants", shown, 4);
        CHECK.due("the class is public and final", ValveShop.class.getModifiers() & (Modifier.PUBLIC | Modifier.FINAL),
            Modifier.PUBLIC | Modifier.FINAL);
    }

    private static void methods() {
        Set<String> due = new TreeSet<>(Set.of(FACE));
        Set<String> names = new TreeSet<>();
        Set<String> hidden = new TreeSet<>();
        for (Method method : ValveShop.class.getDeclaredMethods()) {
            if (Modifier.isPrivate(method.getModifiers())) {
                hidden.add(method.getName());
                continue;
            }
            names.add(method.getName());
            CHECK.due(method.getName() + " is of the face", due.remove(method.getName() + "/" + method.getParameterCount()) ? 1 : 0, 1);
            CHECK.due(method.getName() + " answers an int", method.getReturnType() == int.class ? 1 : 0, 1);
            CHECK.due(method.getName() + " is public", Modifier.isPublic(method.getModifiers()) ? 1 : 0, 1);
        }
        CHECK.due("methods that are missing: " + due, due.size(), 0);
        for (Class<?> inner : ValveShop.class.getDeclaredClasses()) {
            for (Method method : inner.getDeclaredMethods()) {
                hidden.add(method.getName());
            }
        }
        hidden.retainAll(names);
        CHECK.due("methods that bear a public one's name: " + hidden, hidden.size(), 0);
        Constructor<?>[] makers = ValveShop.class.getDeclaredConstructors();
        CHECK.due("constructors", makers.length, 1);
        CHECK.due("of no parameter", makers[0].getParameterCount(), 0);
    }

    private static void nested() {
        Class<?>[] inside = ValveShop.class.getDeclaredClasses();
        CHECK.due("classes, twelve at most", inside.length + 1 <= 12 ? 1 : 0, 1);
        for (Class<?> inner : inside) {
            int with = inner.getModifiers();
            CHECK.due(inner.getName() + " is static", Modifier.isStatic(with) ? 1 : 0, 1);
            CHECK.due(inner.getName() + " is not shown", Modifier.isPublic(with) || Modifier.isProtected(with) ? 1 : 0, 0);
            CHECK.due(inner.getName() + " has twenty fields at most", inner.getDeclaredFields().length <= 20 ? 1 : 0, 1);
        }
    }
}
