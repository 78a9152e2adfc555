/** Of each argument of each call: the least and the greatest are taken; what is beyond is BAD, ahead of all else. */
public final class RangesTest {
    private static final Check CHECK = new Check("ranges");
    /** What a full shop answers that was refused nothing. */
    private static final int[] UNTOUCHED = Full.all(Full.shop());

    private RangesTest() {
    }

    public static void main(String[] args) {
        for (Ranges.Row row : Ranges.rows()) {
            for (int argument = 0; argument < row.args().length; argument++) {
                int[] range = row.ranges()[argument];
                if (range[0] != Integer.MIN_VALUE) {
                    below(row, argument, range[0]);
                }
                if (range[1] != Integer.MAX_VALUE) {
                    above(row, argument, range[1]);
                }
            }
        }
        numbersOfAdjust();
        CHECK.end();
    }

    private static void below(Ranges.Row row, int argument, int least) {
        CHECK.sentence(row.promise() + ": " + row.call() + "(), argument " + argument + " is " + least + " at least", () -> {
            taken(row, row.with(argument, least));
            bad(row, row.with(argument, least - 1));
            bad(row, row.with(argument, Integer.MIN_VALUE));
        });
    }

    private static void above(Ranges.Row row, int argument, int most) {
        CHECK.sentence(row.promise() + ": " + row.call() + "(), argument " + argument + " is " + most + " at most", () -> {
            taken(row, row.with(argument, most));
            bad(row, row.with(argument, most + 1));
            bad(row, row.with(argument, Integer.MAX_VALUE));
        });
    }

    /** What is taken is answered as the document's words have it, and changes what they say. */
    private static void taken(Ranges.Row row, int[] args) {
        ValveShop x = Full.shop();
        ReferenceShop y = new ReferenceShop();
        Full.build(y);
        int answer = Talk.ask(x, row.call(), args);
        CHECK.holds(row.told(args) + " is not BAD", answer != Check.BAD);
        CHECK.due(row.told(args), answer, Talk.ask(y, row.call(), args));
        CHECK.due(row.told(args) + ", then status()", x.status(), y.status());
        CHECK.dueRow(row.told(args) + ", then all", Full.all(x), Full.all(y));
    }

    private static void bad(Ranges.Row row, int[] args) {
        ValveShop x = Full.shop();
        CHECK.due(row.told(args), Talk.ask(x, row.call(), args), Check.BAD);
        CHECK.dueRow(row.told(args) + " changes nothing", Full.all(x), UNTOUCHED);
        badAheadOfAllElse(row, args);
    }

    /** In a new shop each place and SHEET is missing, no FOUND CARD and no PLAN is kept. */
    private static void badAheadOfAllElse(Ranges.Row row, int[] args) {
        ValveShop x = new ValveShop();
        CHECK.due(row.told(args) + " in a new shop", Talk.ask(x, row.call(), args), Check.BAD);
        CHECK.due(row.told(args) + " in a new shop, then status()", x.status(), 0);
    }

    /** A NUMBER's least and greatest are told by which one it is. */
    private static void numbersOfAdjust() {
        int[] least = {0, 10, 0, -20, 0, -20, 1, 20, 1, 1, 0};
        int[] most = {20, 200, 11, 20, 100, 50, 100, 200, 100, 100, 500};
        for (int which = 0; which < 11; which++) {
            Ranges.Row row = new Ranges.Row(7, "adjust", new int[] {1, which, least[which]}, new int[0][]);
            below(row, 2, least[which]);
            above(row, 2, most[which]);
        }
        Ranges.Row rod = new Ranges.Row(7, "adjust", new int[] {1, 0, 0}, new int[0][]);
        CHECK.sentence("7: a ROD is 0, or 4 to 20", () -> {
            taken(rod, rod.with(2, 4));
            bad(rod, rod.with(2, 1));
            bad(rod, rod.with(2, 2));
            bad(rod, rod.with(2, 3));
        });
    }
}
