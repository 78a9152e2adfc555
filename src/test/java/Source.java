import java.util.ArrayList;
import java.util.HashSet;
import java.util.List;
import java.util.Set;
import java.util.regex.Matcher;
import java.util.regex.Pattern;

/** The class's file as it is written: its signs (no comments), its classes and their methods. */
final class Source {
    /** A method or a constructor (its name is its class's) as it is written. */
    static final class Method {
        final String name;
        final String owner;
        final List<String> head;
        final List<String> body;
        final int parameters;
        final int lines;

        Method(String owner, List<String> head, List<String> body, int lines) {
            int opens = head.indexOf("(");
            this.owner = owner;
            this.name = head.get(opens - 1);
            this.head = head.subList(0, opens);
            this.body = body;
            this.parameters = commas(head, opens);
            this.lines = lines;
        }

        boolean makes() {
            return name.equals(owner);
        }

        /** The names that stand before a "(", but for those of classes behind a "new". */
        Set<String> calls() {
            Set<String> names = new HashSet<>();
            for (int i = 1; i < body.size(); i++) {
                boolean name = Character.isJavaIdentifierStart(body.get(i - 1).charAt(0)) && !WORDS.contains(body.get(i - 1));
                if (body.get(i).equals("(") && name && !(i > 1 && body.get(i - 2).equals("new"))) {
                    names.add(body.get(i - 1));
                }
            }
            return names;
        }

        private static int commas(List<String> head, int opens) {
            if (head.get(opens + 1).equals(")")) {
                return 0;
            }
            int sum = 1;
            for (String sign : head.subList(opens, head.size())) {
                sum += sign.equals(",") ? 1 : 0;
            }
            return sum;
        }
    }

    private static final Set<String> WORDS = Set.of("if", "for", "while", "switch", "return", "case");
    private static final Pattern SIGNS = Pattern.compile("(?s)/\\*.*?\\*/|//[^\n]*|\n|\"(?:\\\\.|[^\"\\\\])*\"|'(?:\\\\.|[^'\\\\])+'"
        + "|[A-Za-z_$]\\w*|\\d\\w*|->|::|\\+\\+|--|&&|\\|\\||[-+*/%<>=!&|^]=|[^\\s]");

    final List<String> signs = new ArrayList<>();
    final List<Method> methods = new ArrayList<>();
    final List<String> classes = new ArrayList<>();
    private final List<Integer> lines = new ArrayList<>();

    Source(String text) {
        int line = 1;
        Matcher sign = SIGNS.matcher(text);
        while (sign.find()) {
            String word = sign.group();
            if (!word.equals("\n") && !word.startsWith("//") && !word.startsWith("/*")) {
                signs.add(word);
                lines.add(line);
            }
            line += (int) word.chars().filter(c -> c == '\n').count();
        }
        int at = 0;
        while (at < signs.size()) {
            at = signs.get(at).equals("class") ? readClass(at) : at + 1;
        }
    }

    /** From the word "class" on: where what follows the class begins. */
    private int readClass(int at) {
        String owner = signs.get(at + 1);
        classes.add(owner);
        int member = signs.subList(at, signs.size()).indexOf("{") + at + 1;
        while (!signs.get(member).equals("}")) {
            member = readMember(owner, member);
        }
        return member + 1;
    }

    private int readMember(String owner, int from) {
        int at = from;
        while (!Set.of("class", "{", ";", "=").contains(signs.get(at))) {
            at++;
        }
        List<String> head = signs.subList(from, at);
        if (signs.get(at).equals("class")) {
            return readClass(at);
        }
        if (signs.get(at).equals("{")) {
            int end = closing(at);
            if (head.contains("(")) {
                methods.add(new Method(owner, head, signs.subList(at, end), lines.get(end - 1) - lines.get(from) + 1));
            }
            return end;
        }
        while (!signs.get(at).equals(";")) {
            at = signs.get(at).equals("{") ? closing(at) : at + 1;
        }
        return at + 1;
    }

    /** Behind the brace that closes the one at a place. */
    private int closing(int at) {
        int open = 0;
        do {
            open += signs.get(at).equals("{") ? 1 : signs.get(at).equals("}") ? -1 : 0;
            at++;
        } while (open > 0);
        return at;
    }
}
