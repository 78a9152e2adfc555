/** Promises 29 to 31: each sentence that names an edge. */
public final class FireEdgesTest {
    private static final Check CHECK = new Check("edges of the fire");
    private static final int MIN = Integer.MIN_VALUE, MAX = Integer.MAX_VALUE;
    private static final int GAUGE = 0, HEAP = 1, BURNT = 2, DRUNK = 3, BLOWN = 4, MINUTES = 5;

    private FireEdgesTest() {
    }

    public static void main(String[] args) {
        CHECK.sentence("29: coals, 1 to 1000", FireEdgesTest::coals);
        CHECK.sentence("29: FULL: more than 10000", FireEdgesTest::full);
        CHECK.sentence("29: FULL and BAD change nothing, and leave status()", FireEdgesTest::fullChangesNothing);
        CHECK.sentence("30: the lesser of HEAP and 20 coals burn", FireEdgesTest::lesserOfHeap);
        CHECK.sentence("30: GAUGE is more by 5 for each", FireEdgesTest::fiveForEach);
        CHECK.sentence("30: REGULATOR 0: it stands", FireEdgesTest::stands);
        CHECK.sentence("30: the ENGINE takes DRINK by 100, cut, with GAUGE, as it is then, for its BOILER", FireEdgesTest::drinks);
        CHECK.sentence("30: DRINK of its NOTCH, -6 to 6, and REGULATOR, 0 to 4", FireEdgesTest::drinksByNotch);
        CHECK.sentence("30: then what is above 1500 goes", FireEdgesTest::above1500);
        CHECK.sentence("30: it takes DRINK ahead of that", FireEdgesTest::drinksFirst);
        CHECK.sentence("30: without GAUGE nothing is DRUNK", FireEdgesTest::nothingToDrink);
        CHECK.sentence("30: THE FIRE is one for all ENGINES", FireEdgesTest::oneFire);
        CHECK.sentence("30: what is refused burns nothing", FireEdgesTest::refused);
        CHECK.sentence("31: what is 0 to 5", FireEdgesTest::whats);
        CHECK.sentence("31: it leaves status()", FireEdgesTest::leavesStatus);
        CHECK.end();
    }

    private static int[] fire(ValveShop x) {
        return new int[] {x.fire(GAUGE), x.fire(HEAP), x.fire(BURNT), x.fire(DRUNK), x.fire(BLOWN), x.fire(MINUTES)};
    }

    private static ValveShop with(int coals) {
        ValveShop x = Shops.plain();
        for (int left = coals; left > 0; left -= 1000) {
            x.stoke(Math.min(left, 1000));
        }
        return x;
    }

    /** GAUGE, by an ENGINE that stands. */
    private static ValveShop stood(int coals, int minutes) {
        ValveShop x = with(coals);
        for (int i = 0; i < minutes; i++) {
            x.minute(0, 6, 0);
        }
        return x;
    }

    private static void coals() {
        ValveShop x = new ValveShop();
        CHECK.due("stoke(1)", x.stoke(1), 1);
        CHECK.due("stoke(1000)", x.stoke(1000), 1001);
        CHECK.due("stoke(999)", x.stoke(999), 2000);
        for (int coals : new int[] {0, -1, 1001, MIN, MAX}) {
            CHECK.due("stoke(" + coals + ")", x.stoke(coals), Check.BAD);
        }
        CHECK.due("HEAP", x.fire(HEAP), 2000);
    }

    private static void full() {
        CHECK.due("10000", with(9000).stoke(1000), 10000);
        CHECK.due("10001", with(9001).stoke(1000), Check.FULL);
        CHECK.due("9999", with(9998).stoke(1), 9999);
        CHECK.due("10000", with(9999).stoke(1), 10000);
        CHECK.due("10001", with(9999).stoke(2), Check.FULL);
        CHECK.due("10001", with(10000).stoke(1), Check.FULL);
        CHECK.due("11000", with(10000).stoke(1000), Check.FULL);
        ValveShop x = with(10000);
        x.minute(0, 0, 0);
        CHECK.due("21 where 20 are burnt", x.stoke(21), Check.FULL);
        CHECK.due("20 where 20 are burnt", x.stoke(20), 10000);
    }

    private static void fullChangesNothing() {
        ValveShop x = with(9500);
        x.as(0, 4);
        CHECK.due("FULL", x.stoke(501), Check.FULL);
        CHECK.due("BAD", x.stoke(0), Check.BAD);
        CHECK.dueRow("the fire", fire(x), 0, 9500, 0, 0, 0, 0);
        CHECK.due("status()", x.status(), 3);
        CHECK.due("stoke(500)", x.stoke(500), 10000);
        CHECK.due("status()", x.status(), 3);
    }

    private static void lesserOfHeap() {
        int[][] due = {
            // HEAP; what burns in the first MINUTE, in the second
            {1, 1, 0}, {19, 19, 0}, {20, 20, 0}, {21, 20, 1}, {39, 20, 19}, {40, 20, 20}, {41, 20, 20}};
        for (int[] row : due) {
            ValveShop x = with(row[0]);
            CHECK.due("HEAP " + row[0] + ", the first", x.minute(0, 6, 0), 5 * row[1]);
            CHECK.dueRow("HEAP " + row[0], fire(x), 5 * row[1], row[0] - row[1], row[1], 0, 0, 1);
            int both = row[1] + row[2];
            CHECK.due("HEAP " + row[0] + ", the second", x.minute(0, 6, 0), 5 * both);
            CHECK.dueRow("HEAP " + row[0], fire(x), 5 * both, row[0] - both, both, 0, 0, 2);
        }
        ValveShop none = Shops.plain();
        CHECK.due("no HEAP", none.minute(0, 6, 4), 0);
        CHECK.dueRow("no HEAP", fire(none), 0, 0, 0, 0, 0, 1);
    }

    private static void fiveForEach() {
        for (int coals = 1; coals <= 20; coals++) {
            CHECK.due(coals + " coals", with(coals).minute(0, 6, 0), 5 * coals);
        }
    }

    private static void stands() {
        for (int notch = -6; notch <= 6; notch++) {
            ValveShop x = stood(200, 8);
            CHECK.due("in NOTCH " + notch, x.minute(0, notch, 0), 900);
            CHECK.due("nothing is DRUNK", x.fire(DRUNK), 0);
        }
        ValveShop x = Shops.with(0, 200, 11, 20, 0, -20, 100, 200, 1, 1, 500);
        x.sicken(0, 9);
        x.stoke(40);
        x.minute(0, 6, 0);
        CHECK.due("whatever the ENGINE", x.minute(0, 6, 0), 200);
    }

    private static void drinks() {
        ValveShop asked = Shops.plain();
        int taken = 0;
        for (int coals = 1; coals <= 20; coals++) {
            int gauge = 5 * coals;
            int drink = asked.work(0, 6, gauge, 4, 1);
            ValveShop x = with(coals);
            CHECK.due("GAUGE " + gauge, x.minute(0, 6, 4), gauge - drink / 100);
            CHECK.due("DRUNK by GAUGE " + gauge, x.fire(DRUNK), drink / 100);
            taken += drink / 100;
        }
        CHECK.holds("some took something, some nothing", taken > 0 && taken < 20);
        ValveShop x = stood(320, 15);
        CHECK.due("GAUGE 1500, then 1600", x.minute(0, 6, 4), 1500);
        CHECK.due("DRINK by BOILER 1600", asked.work(0, 6, 1600, 4, 1), 2758);
        CHECK.dueRow("27 of it", fire(x), 1500, 0, 320, 27, 73, 16);
    }

    private static void drinksByNotch() {
        int most = 0;
        for (int notch = -6; notch <= 6; notch++) {
            for (int regulator = 0; regulator <= 4; regulator++) {
                ValveShop x = stood(220, 10);
                int drink = Shops.plain().work(0, notch, 1100, regulator, 1) / 100;
                CHECK.due("in NOTCH " + notch + " by REGULATOR " + regulator, x.minute(0, notch, regulator), 1100 - drink);
                CHECK.due("DRUNK", x.fire(DRUNK), drink);
                most = Math.max(most, drink);
            }
        }
        CHECK.due("the most", most, 18);
        int[][] bad = {{-7, 0}, {7, 0}, {0, -1}, {0, 5}};
        for (int[] a : bad) {
            CHECK.due("NOTCH " + a[0] + ", REGULATOR " + a[1], stood(20, 1).minute(0, a[0], a[1]), Check.BAD);
        }
    }

    private static void above1500() {
        ValveShop x = stood(299, 15);
        CHECK.dueRow("1495", fire(x), 1495, 0, 299, 0, 0, 15);
        x.stoke(1);
        CHECK.due("1500", x.minute(0, 6, 0), 1500);
        CHECK.dueRow("nothing goes", fire(x), 1500, 0, 300, 0, 0, 16);
        x.stoke(1);
        CHECK.due("1505", x.minute(0, 6, 0), 1500);
        CHECK.dueRow("5 go", fire(x), 1500, 0, 301, 0, 5, 17);
        x.stoke(20);
        CHECK.due("1600", x.minute(0, 6, 0), 1500);
        CHECK.dueRow("100 go", fire(x), 1500, 0, 321, 0, 105, 18);
        CHECK.due("no coals", x.minute(0, 6, 0), 1500);
        CHECK.dueRow("nothing goes", fire(x), 1500, 0, 321, 0, 105, 19);
    }

    private static void drinksFirst() {
        // in NOTCH 6 by REGULATOR 4 25 are taken of 1500, 25 of 1505, 26 of 1530
        ValveShop x = stood(300, 15);
        CHECK.due("of 1500", x.minute(0, 6, 4), 1475);
        CHECK.dueRow("nothing goes", fire(x), 1475, 0, 300, 25, 0, 16);
        ValveShop y = stood(301, 15);
        CHECK.due("of 1505", y.minute(0, 6, 4), 1480);
        CHECK.dueRow("nothing goes", fire(y), 1480, 0, 301, 25, 0, 16);
        ValveShop z = stood(306, 15);
        CHECK.due("of 1530", z.minute(0, 6, 4), 1500);
        CHECK.dueRow("4 go", fire(z), 1500, 0, 306, 26, 4, 16);
    }

    private static void nothingToDrink() {
        ValveShop x = Shops.with(0, 200, 11, 20, 0, -20, 100, 200, 1, 1, 0);
        for (int i = 1; i <= 3; i++) {
            CHECK.due("no GAUGE", x.minute(0, 6, 4), 0);
            CHECK.dueRow("no GAUGE", fire(x), 0, 0, 0, 0, 0, i);
        }
    }

    private static void oneFire() {
        ValveShop x = with(100);
        x.twin(5, 0);
        CHECK.due("place 0", x.minute(0, 6, 0), 100);
        CHECK.due("place 5", x.minute(5, 6, 0), 200);
        x.clear(0);
        x.clear(5);
        CHECK.dueRow("without ENGINES", fire(x), 200, 60, 40, 0, 0, 2);
        CHECK.due("coals come all the same", x.stoke(40), 100);
    }

    private static void refused() {
        ValveShop x = stood(100, 2);
        int[][] bad = {{6, 0, 0}, {-1, 0, 0}, {0, 7, 0}, {0, -7, 0}, {0, 0, 5}, {0, 0, -1}};
        for (int[] a : bad) {
            CHECK.due("minute", x.minute(a[0], a[1], a[2]), Check.BAD);
        }
        CHECK.due("status()", x.status(), 0);
        CHECK.due("an empty place", x.minute(3, 0, 0), Check.NULL);
        CHECK.due("status()", x.status(), 1);
        CHECK.dueRow("the fire", fire(x), 200, 60, 40, 0, 0, 2);
        CHECK.due("minute", x.minute(0, 0, 0), 300);
        CHECK.due("status()", x.status(), 0);
    }

    private static void whats() {
        ValveShop x = Shops.plain();
        x.stoke(350);
        for (int i = 0; i < 17; i++) {
            x.minute(0, 6, i < 16 ? 0 : 4);
        }
        CHECK.dueRow("the fire", fire(x), 1500, 10, 340, 27, 173, 17);
        for (int what : new int[] {-1, 6, MIN, MAX}) {
            CHECK.due("fire(" + what + ")", x.fire(what), Check.BAD);
        }
    }

    private static void leavesStatus() {
        ValveShop x = with(10);
        x.as(0, 4);
        for (int what = -1; what <= 6; what++) {
            x.fire(what);
        }
        CHECK.due("status()", x.status(), 3);
    }
}
