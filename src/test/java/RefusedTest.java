/** What is refused, or found, changes nothing but status() (and THE TRACE, by ask()). */
public final class RefusedTest {
    private static final Check CHECK = new Check("refused");
    private static final int[] UNTOUCHED = Full.all(Full.shop());
    /** Where all() tells the status, and where THE TRACE. */
    private static final int STATUS_AT = 0, TRACE_AT = 1, TRACE_TOLD = 8;

    private static final int NOT_THERE = Full.MISSING, EMPTY = Full.EMPTY;
    private static final int MIN = Integer.MIN_VALUE, MAX = Integer.MAX_VALUE;

    private RefusedTest() {
    }

    public static void main(String[] args) {
        sheets();
        copies();
        engines();
        emptyPlaces();
        foundCards();
        states();
        runs();
        asked();
        CHECK.end();
    }

    /** A refusal's FINDING is told by status(); the others leave it. */
    private static int statusBy(int refusal) {
        return refusal <= Check.NULL ? -1000010 - refusal : Full.STATUS;
    }

    private static void refused(int promise, int due, String call, int... args) {
        String told = promise + ": " + Talk.told(call, args);
        CHECK.sentence(told + " is refused by " + due + " and changes nothing", () -> {
            ValveShop x = Full.shop();
            CHECK.due(told, Talk.ask(x, call, args), due);
            int[] left = UNTOUCHED.clone();
            left[STATUS_AT] = statusBy(due);
            if (call.equals("ask") && due != Check.BAD) {
                java.util.Arrays.fill(left, TRACE_AT, TRACE_AT + TRACE_TOLD, Check.NONE);
            }
            CHECK.dueRow(told + ", then all", Full.all(x), left);
        });
    }

    private static void sheets() {
        for (int sheet : new int[] {0, Full.OF_NONE, NOT_THERE, 7}) {
            refused(2, Check.SIZE, "sheet", sheet, 0, -1);
            refused(2, Check.SIZE, "sheet", sheet, 2, MIN);
            refused(2, Check.BAD, "sheet", sheet, 1, 61);
        }
        refused(3, Check.NULL, "set", NOT_THERE, 0, 1);
        refused(3, Check.NULL, "set", 6, 59, 1);
        int[][] sizes = {{0, 60}, {Full.OF_SHORTS, 12}, {Full.OF_BYTES, 5}, {Full.SMALL, 5}, {Full.OF_NONE, 0}, {7, 60}};
        for (int[] size : sizes) {
            refused(3, Check.PLACE, "set", size[0], size[1], 1);
            refused(3, Check.PLACE, "set", size[0], -1, 1);
            refused(3, Check.PLACE, "set", size[0], MIN, 1);
            refused(3, Check.PLACE, "set", size[0], MAX, 1);
        }
        refused(5, Check.NULL, "drop", NOT_THERE);
        refused(5, Check.NULL, "drop", 6);
    }

    private static void copies() {
        refused(4, Check.NULL, "copy", NOT_THERE, 0, 0, 0, 1);
        refused(4, Check.NULL, "copy", 0, 0, NOT_THERE, 0, 1);
        refused(4, Check.NULL, "copy", NOT_THERE, 0, 6, 0, 0);
        int[][] pairs = {{0, Full.OF_SHORTS}, {Full.OF_SHORTS, 0}, {Full.OF_BYTES, 0}, {7, Full.OF_BYTES},
            {Full.OF_BYTES, Full.OF_SHORTS}, {Full.OF_SHORTS, Full.OF_BYTES}};
        for (int[] pair : pairs) {
            refused(4, Check.STORE, "copy", pair[0], 0, pair[1], 1, 2);
            refused(4, Check.STORE, "copy", pair[0], 0, pair[1], 0, 0);
        }
        int[][] places = {
            // a, i, b, j, n
            {0, 0, 7, 3, -1}, {0, 0, 7, 3, MIN}, {0, -1, 7, 3, 2}, {0, -1, 7, 3, 0}, {0, 4, 7, -1, 2}, {0, 4, 7, -1, 0},
            {0, 61, 7, 0, 0}, {0, 0, 7, 61, 0}, {0, 0, 7, 0, 61}, {0, 58, 7, 0, 3}, {0, 0, 7, 58, 3}, {0, 60, 7, 0, 1},
            {0, 0, 7, 60, 1}, {0, 0, Full.SMALL, 0, 6}, {0, 0, Full.SMALL, 3, 3}, {Full.SMALL, 0, 0, 0, 6},
            {Full.SMALL, 3, 0, 0, 3}, {0, 0, Full.OF_NONE, 0, 1}, {Full.OF_NONE, 0, 0, 0, 1}, {0, MAX, 7, 0, 1},
            {0, 0, 7, MAX, 1}, {0, 1, 7, 0, MAX}, {0, 0, 7, 1, MAX}, {0, MAX, 7, MAX, MAX}, {0, MIN, 7, 0, 1},
            {0, 0, 7, MIN, 1}, {0, 1, 0, 0, 60}, {0, 0, 0, 1, 60}, {0, 0, 0, 5, -3}};
        for (int[] a : places) {
            refused(4, Check.PLACE, "copy", a);
        }
    }

    private static void engines() {
        for (int place : new int[] {0, EMPTY, 5}) {
            refused(6, Check.NULL, "engine", place, NOT_THERE, Full.ENGINE_AT);
            refused(6, Check.PLACE, "engine", place, 0, Full.ENGINE_AT + 1);
            refused(6, Check.PLACE, "engine", place, 0, 60);
            refused(6, Check.PLACE, "engine", place, 0, -1);
            refused(6, Check.PLACE, "engine", place, 7, MIN);
            refused(6, Check.PLACE, "engine", place, 7, MAX);
            refused(6, Check.PLACE, "engine", place, Full.OF_BYTES, 0);
            refused(6, Check.PLACE, "engine", place, Full.OF_NONE, 0);
            refused(6, Check.BAD, "engine", place, 0, 0);
            refused(6, Check.BAD, "engine", place, 7, Full.ENGINE_AT - 1);
            refused(6, Check.BAD, "engine", place, Full.OF_SHORTS, 1);
        }
        refused(7, Check.BAD, "adjust", 5, 0, 3);
        refused(7, Check.BAD, "adjust", 5, 1, 201);
        refused(8, Check.BAD, "sicken", 5, 13);
        refused(9, Check.NULL, "twin", 0, EMPTY);
        refused(9, Check.NULL, "twin", 5, EMPTY);
        refused(9, Check.NULL, "twin", EMPTY, EMPTY);
    }

    private static void emptyPlaces() {
        refused(7, Check.NULL, "adjust", EMPTY, 1, 50);
        refused(8, Check.NULL, "sicken", EMPTY, 4);
        refused(11, Check.NULL, "number", EMPTY, 1);
        refused(12, Check.NULL, "piston", EMPTY, 0);
        refused(13, Check.NULL, "valve", EMPTY, 0, 0);
        refused(14, Check.NULL, "open", EMPTY, 0, 0, 0, 0);
        refused(15, Check.NULL, "event", EMPTY, 0, 0, 0);
        refused(16, Check.NULL, "valves", EMPTY, 0);
        refused(17, Check.NULL, "setting", EMPTY, 0);
        refused(18, Check.NULL, "tune", EMPTY);
        refused(19, Check.NULL, "card", EMPTY, 0, 0, 0, 0, 0);
        refused(20, Check.NULL, "look", EMPTY, 0, 0, 0, 0, 0);
        refused(21, Check.NULL, "work", EMPTY, 0, 0, 0, 0);
        refused(26, Check.NULL, "next", EMPTY, 1, 2, 1000);
        refused(30, Check.NULL, "minute", EMPTY, 6, 4);
        refused(32, Check.NULL, "kind", EMPTY);
        refused(34, Check.NULL, "as", EMPTY, 0);
        refused(35, Check.NULL, "ask", EMPTY, 0);
        refused(35, Check.NULL, "ask", EMPTY, 1);
    }

    private static void foundCards() {
        for (int place : new int[] {0, 1, 5}) {
            refused(22, Check.NULL, "find", place, 2, 500, NOT_THERE, 0);
            refused(22, Check.PLACE, "find", place, 2, 500, 0, 13);
            refused(22, Check.PLACE, "find", place, 2, 500, 7, -1);
            refused(22, Check.PLACE, "find", place, 2, 500, 7, MAX);
            refused(22, Check.PLACE, "find", place, 2, 500, Full.OF_SHORTS, 0);
            refused(22, Check.BAD, "find", place, 2, 500, 0, 5);
            refused(22, Check.BAD, "find", place, 2, 500, 7, 12);
            refused(22, Check.BAD, "find", place, 7, 500, 0, 0);
            refused(22, Check.BAD, "find", place, 2, 2001, 0, 0);
        }
        refused(22, Check.NULL, "find", EMPTY, 2, 500, 0, 0);
        refused(25, Check.NULL, "whose", NOT_THERE, 0, 1000, 0);
        refused(25, Check.PLACE, "whose", 0, 13, 1000, 0);
        refused(25, Check.PLACE, "whose", 0, -1, 1000, 0);
        refused(25, Check.PLACE, "whose", Full.OF_NONE, 0, 1000, 0);
        refused(25, Check.BAD, "whose", 0, 5, 1000, 0);
        refused(25, Check.BAD, "whose", 0, 12, 1000, 0);
        refused(26, Check.BAD, "next", 5, 4, 4, 1000);
    }

    private static void states() {
        for (int place : new int[] {Full.EVEN, Full.STUCK, EMPTY}) {
            refused(23, Check.STATE, "misfit", place, 0);
            refused(23, Check.STATE, "misfit", place, 12);
            refused(24, Check.STATE, "named", place, 0, 0);
            refused(24, Check.STATE, "named", place, 1, -1);
            refused(24, Check.STATE, "named", place, 2, 100000);
        }
    }

    private static void runs() {
        refused(27, Check.NULL, "run", EMPTY, 1000, 500, 0, 0, 1);
        refused(27, Check.NULL, "run", 0, 1000, 500, NOT_THERE, 0, 1);
        refused(27, Check.PLACE, "run", 0, 1000, 500, 0, 58, 1);
        refused(27, Check.PLACE, "run", 0, 1000, 500, 0, 31, 10);
        refused(27, Check.PLACE, "run", 0, 1000, 500, 0, -1, 1);
        refused(27, Check.PLACE, "run", 0, 1000, 500, 0, MIN, 1);
        refused(27, Check.PLACE, "run", 0, 1000, 500, 0, MAX, 10);
        refused(27, Check.PLACE, "run", 0, 1000, 500, Full.OF_NONE, 0, 1);
        refused(27, Check.PLACE, "run", 0, 1000, 500, Full.OF_SHORTS, 0, 5);
        refused(27, Check.BAD, "run", 0, 1000, 500, 0, 1, 1);
        refused(27, Check.BAD, "run", 0, 1000, 500, 0, 3, 10);
        refused(27, Check.BAD, "run", 0, 1000, 500, 0, 27, 2);
        refused(27, Check.BAD, "run", 0, 1000, 500, 0, 0, 11);
        refused(27, Check.BAD, "run", 0, 1000, 500, 0, 0, 0);
        refused(29, Check.BAD, "stoke", 0);
        refused(29, Check.BAD, "stoke", 1001);
        refused(30, Check.BAD, "minute", 0, 6, 5);
    }

    private static void asked() {
        refused(34, Check.KIND, "as", 0, 2);
        refused(34, Check.KIND, "as", Full.EVEN, 4);
        refused(34, Check.KIND, "as", Full.SICK, 1);
        refused(34, Check.KIND, "as", Full.STUCK, 2);
        refused(35, Check.BAD, "ask", 0, 2);
        refused(35, Check.BAD, "ask", EMPTY, -1);
        refused(35, Check.BAD, "ask", 6, 0);
        refused(33, Check.BAD, "is", 0, 5);
        refused(28, Check.BAD, "plan", 0, 4);
        refused(31, Check.BAD, "fire", 6);
        refused(37, Check.BAD, "count", 8);
    }
}
