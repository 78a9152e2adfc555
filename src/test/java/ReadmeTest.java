import java.io.IOException;
import java.lang.reflect.Method;
import java.lang.reflect.Modifier;
import java.nio.file.Files;
import java.nio.file.Path;
import java.util.Arrays;
import java.util.Map;
import java.util.regex.Matcher;
import java.util.regex.Pattern;

/** README.md's example answers what it says, and its lists are those of the class. */
public final class ReadmeTest {
    private static final Check CHECK = new Check("readme");
    private static final Pattern EXAMPLE = Pattern.compile("shop\\.(\\w+)\\(([-\\d, ]*)\\);\\s*// (-?\\d+)");
    private static final Map<String, Integer> REFUSALS = Map.of("`BAD`", Check.BAD, "`STATE`", Check.STATE, "`FULL`", Check.FULL,
        "NULL", Check.NULL, "PLACE", Check.PLACE, "KIND", Check.KIND, "SIZE", Check.SIZE, "STORE", Check.STORE);

    private ReadmeTest() {
    }

    public static void main(String[] args) throws IOException {
        String readme = Files.readString(Path.of("README.md"));
        CHECK.sentence("the example's answers", () -> example(readme));
        CHECK.sentence("the list of calls", () -> calls(readme));
        CHECK.sentence("the list of refusals", () -> refusals(readme));
        CHECK.end();
    }

    private static void example(String readme) {
        String block = readme.substring(readme.indexOf("```java"), readme.lastIndexOf("```"));
        ValveShop shop = new ValveShop();
        int calls = 0;
        Matcher line = EXAMPLE.matcher(block);
        while (line.find()) {
            int[] given = Arrays.stream(line.group(2).split(",")).map(String::trim).filter(s -> !s.isEmpty())
                .mapToInt(Integer::parseInt).toArray();
            CHECK.due(Talk.told(line.group(1), given), Talk.ask(shop, line.group(1), given), Integer.parseInt(line.group(3)));
            calls++;
        }
        CHECK.due("lines with a call that tell their answer", calls, block.split("shop\\.").length - 1);
    }

    private static void calls(String readme) {
        for (Method method : ValveShop.class.getDeclaredMethods()) {
            if (Modifier.isPublic(method.getModifiers())) {
                int due = method.getParameterCount();
                Matcher named = Pattern.compile("`" + method.getName() + "\\(([\\w, ]*)\\)`[,| ]").matcher(readme);
                CHECK.holds(method.getName() + " is told with its " + due + " arguments", named.results()
                    .anyMatch(m -> (m.group(1).isEmpty() ? 0 : m.group(1).split(",").length) == due));
            }
        }
    }

    private static void refusals(String readme) {
        REFUSALS.forEach((name, number) -> CHECK.holds(name + " is " + number, readme.contains("| " + number + " | " + name + " |")));
        CHECK.holds("NONE", readme.contains(ValveShop.NONE + ", `NONE`"));
    }
}
