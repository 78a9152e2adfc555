/** Promises 27 and 28. */
public final class RunsTest {
    private static final Check CHECK = new Check("runs");
    /** It goes in NOTCH 6 alone. */
    private static final int[] LONG_LAP = {0, 100, 2, 0, 90, 0, 40, 50, 10, 10, 100};
    /** It goes in NOTCH 1, too. */
    private static final int[] SHORT_LAP = {7, 100, 4, 0, 10, 0, 40, 50, 10, 10, 100};

    private RunsTest() {
    }

    public static void main(String[] args) {
        run();
        runRefused();
        ofAllSheets();
        refusedKeepsThePlan();
        plan();
        byAllChoices();
        ties();
        longRun();
        CHECK.end();
    }

    private static ValveShop withRoad(int... road) {
        ValveShop x = Shops.plain();
        Shops.fill(x, 1, road);
        return x;
    }

    private static int[] planned(ValveShop x, int i) {
        return new int[] {x.plan(i, 0), x.plan(i, 1), x.plan(i, 2), x.plan(i, 3)};
    }

    private static void run() {
        ValveShop x = withRoad(10, 50, 0, 20, 120, 1, 5, 200, 0);
        CHECK.due("27: in 200 minutes", x.run(0, 1000, 200, 1, 0, 3), 121);
        CHECK.due("27: status", x.status(), 0);
        CHECK.dueRow("28: STRETCH 0", planned(x, 0), 4, 1, 38, 32);
        CHECK.dueRow("28: STRETCH 1, with a STOP", planned(x, 1), 4, 1, 137, 65);
        CHECK.dueRow("28: STRETCH 2", planned(x, 2), 3, 2, 11, 24);
        CHECK.due("27: count(7)", x.count(7), 3);
        CHECK.due("27: in 60 minutes", x.run(0, 1000, 60, 1, 0, 3), 179);
        CHECK.dueRow("28: STRETCH 0", planned(x, 0), 3, 2, 14, 48);
        CHECK.dueRow("28: STRETCH 1", planned(x, 1), 3, 2, 36, 97);
        CHECK.dueRow("28: STRETCH 2", planned(x, 2), 4, 2, 7, 34);
        CHECK.due("27: in 57 minutes", x.run(0, 1000, 57, 1, 0, 3), 179);
        CHECK.due("27: in 20 minutes", x.run(0, 1000, 20, 1, 0, 3), Check.NONE);
        CHECK.due("27: in none", x.run(0, 1000, 0, 1, 0, 3), Check.NONE);
        CHECK.due("27: NONE is no FINDING", x.status(), 0);
        CHECK.dueRow("28: what was kept stays", planned(x, 0), 3, 2, 14, 48);
        CHECK.due("27: in 1000 minutes", x.run(0, 1000, 1000, 1, 0, 3), 82);
        CHECK.due("27: from ITEM 3 on", x.run(0, 1000, 500, 1, 3, 1), 44);
        CHECK.due("27: count(7)", x.count(7), 1);
        x.set(1, 1, 2000);
        CHECK.due("27: too much of a LOAD", x.run(0, 1000, 1000, 1, 0, 3), Check.NONE);
        CHECK.due("27: no BOILER", x.run(0, 0, 1000, 1, 3, 1), Check.NONE);
    }

    private static void runRefused() {
        ValveShop x = withRoad(10, 50, 0, 20, 120, 1, 5, 200, 0);
        int[][] bad = {{6, 1000, 9, 1, 0, 1}, {-1, 1000, 9, 1, 0, 1}, {0, 2001, 9, 1, 0, 1}, {0, -1, 9, 1, 0, 1},
            {0, 0, 1001, 1, 0, 1}, {0, 0, -1, 1, 0, 1}, {0, 0, 9, 8, 0, 1}, {0, 0, 9, -1, 0, 1},
            {0, 0, 9, 1, 0, 0}, {0, 0, 9, 1, 0, 11}, {1, 0, 9, 1, 0, 11}};
        for (int[] a : bad) {
            CHECK.due("27: BAD", x.run(a[0], a[1], a[2], a[3], a[4], a[5]), Check.BAD);
        }
        CHECK.due("27: no ENGINE", x.run(1, 0, 9, 1, 99, 1), Check.NULL);
        CHECK.due("27: no SHEET", x.run(0, 0, 9, 2, 99, 1), Check.NULL);
        CHECK.due("27: status", x.status(), 1);
        CHECK.due("27: too many", x.run(0, 0, 9, 1, 0, 4), Check.PLACE);
        CHECK.due("27: too many from 1 on", x.run(0, 0, 9, 1, 1, 3), Check.PLACE);
        CHECK.due("27: from -1", x.run(0, 0, 9, 1, -1, 1), Check.PLACE);
        CHECK.due("27: from MAX", x.run(0, 0, 9, 1, Integer.MAX_VALUE, 1), Check.PLACE);
        CHECK.due("27: status", x.status(), 2);
        int[][] items = {{0, 0}, {0, 51}, {1, -1}, {1, 2001}, {2, -1}, {2, 2}};
        for (int[] item : items) {
            Shops.fill(x, 1, 10, 50, 0, 20, 120, 1, 5, 200, 0);
            x.set(1, 6 + item[0], item[1]);
            x.kind(3);
            CHECK.due("27: ITEM " + item[0] + " is " + item[1], x.run(0, 1000, 900, 1, 0, 3), Check.BAD);
            CHECK.due("27: BAD leaves status", x.status(), 1);
            CHECK.due("27: PLACE first", x.run(0, 1000, 900, 1, 0, 4), Check.PLACE);
            CHECK.due("27: it is not looked at", x.run(0, 1000, 900, 1, 0, 2) > 0 ? 1 : 0, 1);
        }
        Shops.fill(x, 1, 50, 0, 1, 1, 0, 0);
        CHECK.due("27: the most and the least", x.run(0, 2000, 1000, 1, 0, 2) > 0 ? 1 : 0, 1);
    }

    private static void ofAllSheets() {
        for (int sheet = 0; sheet < 8; sheet++) {
            ValveShop x = Shops.plain();
            Shops.fill(x, sheet, 20, 120, 1);
            CHECK.due("27: SHEET " + sheet, x.run(0, 1000, 500, sheet, 0, 1), 44);
        }
    }

    private static void refusedKeepsThePlan() {
        ValveShop x = withRoad(20, 120, 1, 10, 50, 2);
        CHECK.due("27: one STRETCH", x.run(0, 1000, 500, 1, 0, 1), 44);
        x.run(0, 1000, 500, 1, 0, 2);
        CHECK.due("28: what was kept stays", x.count(7), 1);
        CHECK.due("28: what was kept stays", x.plan(0, 3), 44);
        x.clear(0);
        CHECK.due("28: without its ENGINE", x.plan(0, 3), 44);
        x.drop(1);
        CHECK.due("28: without its SHEET", x.plan(0, 0), 3);
    }

    private static void plan() {
        ValveShop x = withRoad(20, 120, 1);
        x.kind(3);
        CHECK.due("28: none is kept", x.plan(0, 0), Check.STATE);
        CHECK.due("28: none is kept", x.plan(-1, 3), Check.STATE);
        CHECK.due("28: BAD first", x.plan(0, 4), Check.BAD);
        CHECK.due("28: it leaves status", x.status(), 1);
        x.run(0, 1000, 1, 1, 0, 1);
        CHECK.due("28: there was none", x.plan(0, 0), Check.STATE);
        x.run(0, 1000, 500, 1, 0, 1);
        x.kind(3);
        CHECK.due("28: what 4", x.plan(0, 4), Check.BAD);
        CHECK.due("28: what -1", x.plan(0, -1), Check.BAD);
        CHECK.due("28: i -1", x.plan(-1, 0), Check.NONE);
        CHECK.due("28: i 1", x.plan(1, 0), Check.NONE);
        CHECK.due("28: i MAX", x.plan(Integer.MAX_VALUE, 3), Check.NONE);
        CHECK.due("28: i MIN", x.plan(Integer.MIN_VALUE, 3), Check.NONE);
        CHECK.due("28: it leaves status", x.status(), 1);
    }

    /** Minutes and COAL of all choices on a STRETCH, by what work() tells; minutes 0: it can't go. */
    private static int[][] choices(int[] engine, int miles, int load, int stop) {
        int[][] rows = new int[24][];
        ValveShop x = Shops.with(engine);
        for (int choice = 0; choice < 24; choice++) {
            int notch = 1 + choice / 4;
            int regulator = 1 + choice % 4;
            int work = x.work(0, notch, 1000, regulator, 0);
            int drink = x.work(0, notch, 1000, regulator, 1);
            int speed = Math.min(60, (work - load) / 10);
            int minutes = 0;
            if (speed >= 1) {
                minutes = (60 * miles + speed - 1) / speed + 3 * stop;
            }
            rows[choice] = new int[] {notch, regulator, minutes, drink * miles / 100};
        }
        return rows;
    }

    private static void byAllChoices() {
        int[][] roads = {{7, 0, 1, 3, 300, 0}, {1, 0, 0, 1, 0, 0}, {50, 700, 0, 50, 10, 1}, {2, 900, 1, 9, 400, 1}};
        for (int[] road : roads) {
            byTwoOf(Shops.PLAIN, road);
            byTwoOf(LONG_LAP, road);
            byTwoOf(SHORT_LAP, road);
        }
    }

    private static void byTwoOf(int[] engine, int[] road) {
        int[][] first = choices(engine, road[0], road[1], road[2]);
        int[][] second = choices(engine, road[3], road[4], road[5]);
        for (int minutes = 0; minutes <= 1000; minutes = minutes * 7 / 6 + 2) {
            byTwo(engine, road, first, second, minutes);
        }
    }

    private static void byTwo(int[] engine, int[] road, int[][] first, int[][] second, int minutes) {
        int least = Check.NONE;
        int[] one = null;
        int[] two = null;
        for (int[] a : first) {
            for (int[] b : second) {
                int coal = a[3] + b[3];
                if (a[2] > 0 && b[2] > 0 && a[2] + b[2] <= minutes && (one == null || coal < least)) {
                    least = coal;
                    one = a;
                    two = b;
                }
            }
        }
        ValveShop x = Shops.with(engine);
        Shops.fill(x, 1, road);
        CHECK.due("27: COAL in " + minutes, x.run(0, 1000, minutes, 1, 0, 2), least);
        if (one != null) {
            CHECK.dueRow("28: the first in " + minutes, planned(x, 0), one);
            CHECK.dueRow("28: the second in " + minutes, planned(x, 1), two);
        }
    }

    /** One mile burns so little that many choices burn the same. */
    private static void ties() {
        int[] road = new int[30];
        for (int s = 0; s < 10; s++) {
            road[3 * s] = 1;
        }
        ValveShop x = withRoad(road);
        int[][] rows = choices(Shops.PLAIN, 1, 0, 0);
        int least = Integer.MAX_VALUE;
        int[] due = null;
        for (int[] row : rows) {
            if (row[2] > 0 && row[3] < least) {
                least = row[3];
                due = row;
            }
        }
        CHECK.due("27: ten STRETCHES alike", x.run(0, 1000, 1000, 1, 0, 10), 10 * least);
        for (int s = 0; s < 10; s++) {
            CHECK.dueRow("28: the first of several, each time", planned(x, s), due);
        }
        CHECK.due("27: count(7)", x.count(7), 10);
        CHECK.due("28: no STRETCH 10", x.plan(10, 0), Check.NONE);
    }

    private static void longRun() {
        ValveShop x = withRoad(50, 0, 1, 50, 0, 1, 50, 0, 1, 50, 0, 1, 50, 0, 1,
            50, 0, 1, 50, 0, 1, 50, 0, 1, 50, 0, 1, 50, 0, 1);
        CHECK.due("27: 60 miles an hour at most", x.run(0, 2000, 10 * 53 - 1, 1, 0, 10), Check.NONE);
        int coal = x.run(0, 2000, 10 * 53, 1, 0, 10);
        CHECK.due("27: just in time", coal > 0 ? 1 : 0, 1);
        int minutes = 0;
        int burnt = 0;
        for (int s = 0; s < 10; s++) {
            minutes += x.plan(s, 2);
            burnt += x.plan(s, 3);
        }
        CHECK.due("28: minutes together", minutes, 530);
        CHECK.due("28: COAL together", burnt, coal);
    }
}
