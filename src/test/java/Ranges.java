/** What the document tells of the arguments of each call: below and above it is BAD. */
final class Ranges {
    /** An argument that isn't BAD by itself, however great or small it is. */
    static final int[] ANY = {Integer.MIN_VALUE, Integer.MAX_VALUE};

    private static final int[] SHEET = {0, 7}, SHELF = {0, 5}, NOTCH = {-6, 6}, BOILER = {0, 2000}, REGULATOR = {0, 4};
    private static final int[] END = {0, 1}, TURNED = {-1000, 1000}, SICKNESS = {0, 12}, KIND = {0, 4};

    /** A call with arguments that a full shop takes, and the least and the greatest of each argument. */
    record Row(int promise, String call, int[] args, int[][] ranges) {
        String told(int[] given) {
            return promise + ": " + Talk.told(call, given);
        }

        /** The arguments with another one at its place. */
        int[] with(int argument, int v) {
            int[] given = args.clone();
            given[argument] = v;
            return given;
        }
    }

    private Ranges() {
    }

    private static int[] args(int... v) {
        return v;
    }

    private static int[] to(int least, int most) {
        return new int[] {least, most};
    }

    private static Row row(int promise, String call, int[] args, int[]... ranges) {
        return new Row(promise, call, args, ranges);
    }

    static Row[] rows() {
        return new Row[] {
            row(2, "sheet", args(1, 1, 5), SHEET, to(0, 2), to(Integer.MIN_VALUE, 60)),
            row(3, "set", args(0, 5, 9), SHEET, ANY, ANY),
            row(4, "copy", args(0, 5, 7, 9, 3), SHEET, ANY, SHEET, ANY, ANY),
            row(5, "drop", args(1), SHEET),
            row(6, "engine", args(4, 0, Full.ENGINE_AT), SHELF, SHEET, ANY),
            row(7, "adjust", args(1, 2, 10), SHELF, to(0, 10), to(0, 11)),
            row(8, "sicken", args(1, 4), SHELF, SICKNESS),
            row(9, "twin", args(4, 2), SHELF, SHELF),
            row(10, "clear", args(1), SHELF),
            row(11, "number", args(1, 4), SHELF, to(0, 11)),
            row(12, "piston", args(1, 7), SHELF, TURNED),
            row(13, "valve", args(1, 3, 7), SHELF, NOTCH, TURNED),
            row(14, "open", args(1, 5, 0, 7, 0), SHELF, NOTCH, END, TURNED, to(0, 1)),
            row(15, "event", args(1, 5, 0, 1), SHELF, NOTCH, END, to(0, 3)),
            row(16, "valves", args(1, 0), SHELF, to(0, 1)),
            row(17, "setting", args(1, 0), SHELF, to(0, 2)),
            row(18, "tune", args(1), SHELF),
            row(19, "card", args(1, 5, 900, 3, 0, 7), SHELF, NOTCH, BOILER, REGULATOR, END, to(0, 47)),
            row(20, "look", args(1, 5, 900, 3, 0, 1), SHELF, NOTCH, BOILER, REGULATOR, END, to(0, 2)),
            row(21, "work", args(1, 5, 900, 3, 0), SHELF, NOTCH, BOILER, REGULATOR, to(0, 1)),
            row(22, "find", args(1, 5, 900, 0, 2), SHELF, NOTCH, BOILER, SHEET, ANY),
            row(23, "misfit", args(0, 5), to(0, 5), SICKNESS),
            row(24, "named", args(0, 2, 500), to(0, 5), to(0, 2), to(0, 100000)),
            row(25, "whose", args(0, 2, 900, 2), SHEET, ANY, BOILER, to(0, 2)),
            row(26, "next", args(1, 3, 7, 900), SHELF, SICKNESS, SICKNESS, BOILER),
            row(27, "run", args(1, 1000, 500, 0, 0, 3), SHELF, BOILER, to(0, 1000), SHEET, ANY, to(1, 10)),
            row(28, "plan", args(1, 2), ANY, to(0, 3)),
            row(29, "stoke", args(5), to(1, 1000)),
            row(30, "minute", args(1, 5, 3), SHELF, NOTCH, REGULATOR),
            row(31, "fire", args(1), to(0, 5)),
            row(32, "kind", args(1), SHELF),
            row(33, "is", args(1, 1), SHELF, KIND),
            row(34, "as", args(1, 1), SHELF, KIND),
            row(35, "ask", args(1, 1), SHELF, to(0, 1)),
            row(37, "count", args(1), to(0, 7))};
    }
}
