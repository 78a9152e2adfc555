/** Promises 27 and 28: each sentence that names an edge. */
public final class RunsEdgesTest {
    private static final Check CHECK = new Check("edges of runs");
    private static final int MIN = Integer.MIN_VALUE, MAX = Integer.MAX_VALUE;
    /** By BOILER 1000 a plain ENGINE has WORK 1641 in NOTCH 6 by REGULATOR 4, and 1588 at most by another choice. */
    private static final int MOST = 1641, DRINK = 1718;

    private RunsEdgesTest() {
    }

    public static void main(String[] args) {
        CHECK.sentence("27: miles are 1 to 50", () -> itemOfRoad(0, 1, 50));
        CHECK.sentence("27: LOAD is 0 to 2000", () -> itemOfRoad(1, 0, 2000));
        CHECK.sentence("27: STOP is 0, 1", () -> itemOfRoad(2, 0, 1));
        CHECK.sentence("27: three ITEMS for each STRETCH, from i on, to the end of a SHEET: PLACE", RunsEdgesTest::itemsOfRun);
        CHECK.sentence("27: no other ITEM is looked at", RunsEdgesTest::otherItems);
        CHECK.sentence("27: n is 1 to 10", RunsEdgesTest::howManyStretches);
        CHECK.sentence("27: it can go, if SPEED is 1 or more", RunsEdgesTest::speedOne);
        CHECK.sentence("27: SPEED is (WORK - LOAD) by 10, cut", RunsEdgesTest::speedCut);
        CHECK.sentence("27: SPEED is 60 at most", RunsEdgesTest::speedSixty);
        CHECK.sentence("27: one minute more if there is a rest", RunsEdgesTest::rest);
        CHECK.sentence("27: 3 minutes more with a STOP", RunsEdgesTest::stop);
        CHECK.sentence("27: minutes together are told ones or fewer", RunsEdgesTest::toldMinutes);
        CHECK.sentence("27: in so many minutes, 0 to 1000", RunsEdgesTest::minutesEnds);
        CHECK.sentence("27: COAL is DRINK times miles by 100, cut by each STRETCH", RunsEdgesTest::coalCut);
        CHECK.sentence("27: NOTCH n is 1 to 6, REGULATOR r is 1 to 4", RunsEdgesTest::choices);
        CHECK.sentence("27: BOILER 0 to 2000", RunsEdgesTest::boilers);
        CHECK.sentence("27: least COAL ahead of the least NOTCH", RunsEdgesTest::leastCoal);
        CHECK.sentence("27: of several the least NOTCH of the first STRETCH, then of the second", RunsEdgesTest::leastNotch);
        CHECK.sentence("27: of several the least REGULATOR", RunsEdgesTest::leastRegulator);
        CHECK.sentence("27: by the ENGINE's SICKNESS, as it is", RunsEdgesTest::ofSickOne);
        CHECK.sentence("27: NONE: what was kept stays, and status() is 0", RunsEdgesTest::noneKeeps);
        CHECK.sentence("27: a BAD ITEM leaves the PLAN and status()", RunsEdgesTest::badKeeps);
        CHECK.sentence("28: NONE: there are not so many (i below 0, too)", RunsEdgesTest::planEnds);
        CHECK.sentence("28: what is 0 to 3", RunsEdgesTest::planWhats);
        CHECK.sentence("28: STATE: none is kept", RunsEdgesTest::planState);
        CHECK.sentence("28: the PLAN kept last, of fewer STRETCHES", RunsEdgesTest::planKeptLast);
        CHECK.sentence("28: it stays when ENGINE and SHEET go", RunsEdgesTest::planStays);
        CHECK.end();
    }

    private static ValveShop with(int... road) {
        ValveShop x = Shops.plain();
        Shops.fill(x, 1, road);
        return x;
    }

    private static int run(int minutes, int... road) {
        return with(road).run(0, 1000, minutes, 1, 0, road.length / 3);
    }

    private static int[] planned(ValveShop x, int i) {
        return new int[] {x.plan(i, 0), x.plan(i, 1), x.plan(i, 2), x.plan(i, 3)};
    }

    private static void itemOfRoad(int item, int least, int most) {
        for (int s = 0; s < 3; s++) {
            int[][] due = {{least, 1}, {most, 1}, {least - 1, 0}, {most + 1, 0}, {MIN, 0}, {MAX, 0}};
            for (int[] pair : due) {
                ValveShop x = with(5, 50, 0, 5, 50, 0, 5, 50, 0);
                x.set(1, 3 * s + item, pair[0]);
                x.as(0, 4);
                int answer = x.run(0, 2000, 900, 1, 0, 3);
                String told = "ITEM " + item + " of STRETCH " + s + " is " + pair[0];
                CHECK.due(told, answer == Check.BAD ? 0 : 1, pair[1]);
                CHECK.due(told + ", status()", x.status(), pair[1] == 1 ? 0 : 3);
                CHECK.due(told + ", count(7)", x.count(7), pair[1] == 1 ? 3 : 0);
            }
        }
    }

    private static int[] roadOf(int stretches) {
        int[] road = new int[3 * stretches];
        for (int s = 0; s < stretches; s++) {
            road[3 * s] = 1;
        }
        return road;
    }

    private static void itemsOfRun() {
        for (int n : new int[] {1, 2, 9, 10}) {
            ValveShop x = with(roadOf(n));
            CHECK.due(n + " STRETCHES", x.run(0, 1000, 1000, 1, 0, n) >= 0 ? 1 : 0, 1);
            CHECK.due("from 1 on", x.run(0, 1000, 1000, 1, 1, n), Check.PLACE);
            CHECK.due("from -1 on", x.run(0, 1000, 1000, 1, -1, n), Check.PLACE);
            CHECK.due("from MAX on", x.run(0, 1000, 1000, 1, MAX, n), Check.PLACE);
            CHECK.due("from MIN on", x.run(0, 1000, 1000, 1, MIN, n), Check.PLACE);
            CHECK.due("one STRETCH more", x.run(0, 1000, 1000, 1, 0, n + 1), n == 10 ? Check.BAD : Check.PLACE);
            CHECK.due("status()", x.status(), 2);
            CHECK.due("the last one alone", x.run(0, 1000, 1000, 1, 3 * n - 3, 1) >= 0 ? 1 : 0, 1);
            CHECK.due("one further", x.run(0, 1000, 1000, 1, 3 * n - 2, 1), Check.PLACE);
        }
        ValveShop x = with(roadOf(20));
        CHECK.due("the last 30 of 60", x.run(0, 1000, 1000, 1, 30, 10) >= 0 ? 1 : 0, 1);
        CHECK.due("one further", x.run(0, 1000, 1000, 1, 31, 10), Check.PLACE);
    }

    private static void otherItems() {
        ValveShop x = with(0, 20, 120, 1, MIN, 7);
        CHECK.due("from 1 on", x.run(0, 1000, 500, 1, 1, 1), 44);
        CHECK.due("from 0 on", x.run(0, 1000, 500, 1, 0, 1), Check.BAD);
        CHECK.due("from 2 on", x.run(0, 1000, 500, 1, 2, 1), Check.BAD);
        CHECK.due("from 0 on, two of them", x.run(0, 1000, 500, 1, 0, 2), Check.BAD);
    }

    private static void howManyStretches() {
        ValveShop x = with(roadOf(20));
        for (int n : new int[] {-1, 0, 11, MIN, MAX}) {
            CHECK.due("n " + n, x.run(0, 1000, 1000, 1, 0, n), Check.BAD);
        }
        for (int n = 1; n <= 10; n++) {
            // 2 coals burn for one mile in NOTCH 3 by REGULATOR 1
            CHECK.due("n " + n, x.run(0, 1000, 50, 1, 0, n), 2 * n);
            CHECK.due("count(7)", x.count(7), n);
            CHECK.dueRow("the last one", planned(x, n - 1), 3, 1, 4, 2);
            CHECK.due("one beyond", x.plan(n, 0), Check.NONE);
        }
    }

    private static void speedOne() {
        CHECK.due("SPEED 1", run(1000, 1, MOST - 10, 0), DRINK / 100);
        CHECK.due("SPEED 0.9", run(1000, 1, MOST - 9, 0), Check.NONE);
        CHECK.due("SPEED 0", run(1000, 1, MOST, 0), Check.NONE);
        CHECK.due("less than nothing", run(1000, 1, MOST + 1, 0), Check.NONE);
        CHECK.due("LOAD 2000", run(1000, 1, 2000, 0), Check.NONE);
        ValveShop x = with(1, MOST - 10, 0);
        x.run(0, 1000, 1000, 1, 0, 1);
        CHECK.dueRow("an hour for a mile", planned(x, 0), 6, 4, 60, 17);
    }

    private static void speedCut() {
        int[][] due = {
            // WORK less LOAD, minutes for a mile
            {10, 60}, {19, 60}, {20, 30}, {29, 30}, {30, 20}, {39, 20}, {40, 15}, {50, 12}};
        for (int[] pair : due) {
            CHECK.due(pair[0] + " more than LOAD", run(pair[1], 1, MOST - pair[0], 0), DRINK / 100);
            CHECK.due(pair[0] + " more than LOAD, a minute less", run(pair[1] - 1, 1, MOST - pair[0], 0), Check.NONE);
        }
    }

    private static void speedSixty() {
        CHECK.due("600 more than LOAD", run(50, 50, MOST - 600, 0), DRINK / 2);
        CHECK.due("599 more than LOAD", run(50, 50, MOST - 599, 0), Check.NONE);
        CHECK.due("599 more than LOAD, a minute more", run(51, 50, MOST - 599, 0), DRINK / 2);
        CHECK.due("620 more than LOAD", run(49, 50, MOST - 620, 0), Check.NONE);
        CHECK.due("without LOAD", run(49, 50, 0, 0), Check.NONE);
        CHECK.due("without LOAD, a minute more", run(50, 50, 0, 0), 340);
        ValveShop x = with(50, 0, 0);
        CHECK.due("by BOILER 2000", x.run(0, 2000, 49, 1, 0, 1), Check.NONE);
        CHECK.due("by BOILER 2000, a minute more", x.run(0, 2000, 50, 1, 0, 1) > 0 ? 1 : 0, 1);
    }

    private static void rest() {
        int[][] due = {
            // miles, SPEED, minutes
            {1, 6, 10}, {1, 7, 9}, {1, 59, 2}, {1, 60, 1}, {7, 60, 7}, {7, 50, 9}, {10, 50, 12}, {50, 7, 429}, {49, 6, 490}, {3, 8, 23}};
        for (int[] row : due) {
            int load = MOST - 10 * row[1];
            ValveShop x = with(row[0], load, 0);
            // other choices are slower: where one does it in time, it burns less
            CHECK.due("in one minute less", run(row[2] - 1, row[0], load, 0), Check.NONE);
            CHECK.due("in time", x.run(0, 1000, row[2], 1, 0, 1) >= 0 ? 1 : 0, 1);
            CHECK.due("minutes", x.plan(0, 2), row[2]);
        }
    }

    private static void stop() {
        int load = MOST - 60;
        CHECK.due("without a STOP in 10", run(10, 1, load, 0), 17);
        CHECK.due("without a STOP in 9", run(9, 1, load, 0), Check.NONE);
        CHECK.due("with a STOP in 13", run(13, 1, load, 1), 17);
        CHECK.due("with a STOP in 12", run(12, 1, load, 1), Check.NONE);
        CHECK.due("with a STOP and a rest", run(12, 1, MOST - 70, 1), 17);
        CHECK.due("with a STOP and a rest, a minute less", run(11, 1, MOST - 70, 1), Check.NONE);
        ValveShop x = with(1, load, 1, 1, load, 0, 1, load, 1);
        CHECK.due("three of them", x.run(0, 1000, 36, 1, 0, 3), 51);
        CHECK.dueRow("the first", planned(x, 0), 6, 4, 13, 17);
        CHECK.dueRow("the second", planned(x, 1), 6, 4, 10, 17);
        CHECK.dueRow("the third", planned(x, 2), 6, 4, 13, 17);
        CHECK.due("three of them, a minute less", x.run(0, 1000, 35, 1, 0, 3), Check.NONE);
    }

    private static void toldMinutes() {
        int[] road = {10, 50, 0, 20, 120, 1, 5, 200, 0};
        int[][] due = {
            // told minutes, COAL: each time as few minutes as it takes, and one less
            {57, 179}, {200, 121}, {1000, 82}};
        for (int[] pair : due) {
            ValveShop x = with(road);
            CHECK.due("in " + pair[0], x.run(0, 1000, pair[0], 1, 0, 3), pair[1]);
            int minutes = x.plan(0, 2) + x.plan(1, 2) + x.plan(2, 2);
            CHECK.holds("minutes together", minutes <= pair[0]);
            CHECK.due("in as many", x.run(0, 1000, minutes, 1, 0, 3), pair[1]);
            CHECK.holds("in one less it burns more", x.run(0, 1000, minutes - 1, 1, 0, 3) > pair[1]);
        }
    }

    private static void minutesEnds() {
        int load = MOST - 30;
        CHECK.due("1000 minutes in 1000", run(1000, 50, load, 0), 859);
        CHECK.due("1000 minutes in 999", run(999, 50, load, 0), Check.NONE);
        CHECK.due("1003 minutes in 1000", run(1000, 50, load, 1), Check.NONE);
        CHECK.due("3000 minutes in 1000", run(1000, 50, MOST - 10, 0), Check.NONE);
        CHECK.due("1 minute in 1", run(1, 1, 0, 0), 6);
        CHECK.due("1 minute in none", run(0, 1, 0, 0), Check.NONE);
        CHECK.due("-1 minutes", run(-1, 1, 0, 0), Check.BAD);
        CHECK.due("1001 minutes", run(1001, 1, 0, 0), Check.BAD);
        ValveShop x = with(roadOf(10));
        CHECK.due("ten in 10 minutes", x.run(0, 1000, 10, 1, 0, 10), 60);
        CHECK.due("ten in 9 minutes", x.run(0, 1000, 9, 1, 0, 10), Check.NONE);
        ValveShop y = with(25, load, 0, 25, load, 0);
        CHECK.due("500 and 500 minutes in 1000", y.run(0, 1000, 1000, 1, 0, 2), 858);
        CHECK.due("500 and 500 minutes in 999", y.run(0, 1000, 999, 1, 0, 2), Check.NONE);
    }

    private static void coalCut() {
        int load = MOST - 60;
        for (int miles = 1; miles <= 50; miles++) {
            CHECK.due(miles + " miles", run(1000, miles, load, 0), DRINK * miles / 100);
        }
        CHECK.due("17.18 and 17.18 and 17.18", run(1000, 1, load, 0, 1, load, 0, 1, load, 0), 51);
        CHECK.due("51.54", run(1000, 3, load, 0), 51);
    }

    private static void choices() {
        int[] longLap = {0, 100, 2, 0, 90, 0, 40, 50, 10, 10, 100};
        ValveShop six = Shops.with(longLap);
        Shops.fill(six, 1, 1, 840, 0);
        CHECK.due("in NOTCH 6 by REGULATOR 4 alone", six.run(0, 1000, 1000, 1, 0, 1), 9);
        CHECK.dueRow("in NOTCH 6 by REGULATOR 4 alone", planned(six, 0), 6, 4, 60, 9);
        Shops.fill(six, 1, 1, 0, 0);
        CHECK.due("in NOTCH 6 by REGULATOR 1", six.run(0, 1000, 1000, 1, 0, 1), 2);
        CHECK.dueRow("in NOTCH 6 by REGULATOR 1", planned(six, 0), 6, 1, 8, 2);
        // REGULATOR 1 has WORK 83 in NOTCH 6: what a NOTCH 7 would burn less than by REGULATOR 2 is not to be had
        Shops.fill(six, 1, 10, 90, 0);
        CHECK.due("in NOTCH 6 by REGULATOR 2", six.run(0, 1000, 1000, 1, 0, 1), 46);
        CHECK.dueRow("in NOTCH 6 by REGULATOR 2", planned(six, 0), 6, 2, 24, 46);
        int[] shortLap = {7, 100, 4, 0, 10, 0, 40, 50, 10, 10, 100};
        ValveShop one = Shops.with(shortLap);
        Shops.fill(one, 1, 10, 0, 0);
        CHECK.due("in NOTCH 1 by REGULATOR 1", one.run(0, 1000, 1000, 1, 0, 1), 22);
        CHECK.dueRow("in NOTCH 1 by REGULATOR 1", planned(one, 0), 1, 1, 100, 22);
        CHECK.due("in NOTCH 1 by REGULATOR 4", one.run(0, 1000, 10, 1, 0, 1), 78);
        CHECK.dueRow("what burns least in 10 minutes", planned(one, 0), 4, 2, 10, 78);
    }

    private static void boilers() {
        ValveShop x = with(1, 0, 0, 50, 2000, 1);
        CHECK.due("BOILER 0", x.run(0, 0, 1000, 1, 0, 1), Check.NONE);
        CHECK.due("BOILER 2000", x.run(0, 2000, 1000, 1, 0, 1), 0);
        CHECK.dueRow("it creeps in NOTCH 2", planned(x, 0), 2, 2, 60, 0);
        CHECK.due("BOILER 2000 with the greatest LOAD", x.run(0, 2000, 53, 1, 3, 1) > 0 ? 1 : 0, 1);
        CHECK.due("BOILER 2001", x.run(0, 2001, 1000, 1, 0, 1), Check.BAD);
        CHECK.due("BOILER -1", x.run(0, -1, 1000, 1, 0, 1), Check.BAD);
    }

    private static void leastCoal() {
        ValveShop x = with(1, 0, 0);
        int[][] due = {
            // told minutes; NOTCH, REGULATOR, minutes, COAL
            {1000, 2, 4, 60, 0}, {60, 2, 4, 60, 0}, {59, 3, 1, 4, 2}, {4, 3, 1, 4, 2}, {3, 4, 1, 3, 3}, {2, 3, 2, 2, 4}, {1, 4, 2, 1, 6}};
        for (int[] row : due) {
            CHECK.due("in " + row[0], x.run(0, 1000, row[0], 1, 0, 1), row[4]);
            CHECK.dueRow("in " + row[0], planned(x, 0), row[1], row[2], row[3], row[4]);
        }
    }

    private static void leastNotch() {
        // 5 coals in 7 minutes: NOTCHES 3 and 4, 3 and 5, 4 and 3, 5 and 3 do it
        ValveShop x = with(1, 0, 0, 1, 0, 0);
        CHECK.due("in 7 minutes", x.run(0, 1000, 7, 1, 0, 2), 5);
        CHECK.dueRow("the first", planned(x, 0), 3, 1, 4, 2);
        CHECK.dueRow("the second", planned(x, 1), 4, 1, 3, 3);
        ValveShop y = with(1, 0, 0, 1, 0, 0, 1, 0, 0);
        CHECK.due("three in 11 minutes", y.run(0, 1000, 11, 1, 0, 3), 7);
        CHECK.dueRow("the first", planned(y, 0), 3, 1, 4, 2);
        CHECK.dueRow("the second", planned(y, 1), 3, 1, 4, 2);
        CHECK.dueRow("the third", planned(y, 2), 4, 1, 3, 3);
        CHECK.due("in 65 minutes", x.run(0, 1000, 65, 1, 0, 2), 2);
        CHECK.dueRow("the first creeps", planned(x, 0), 2, 4, 60, 0);
        CHECK.dueRow("the second", planned(x, 1), 3, 1, 4, 2);
    }

    private static void leastRegulator() {
        // by BOILER 2000 REGULATORS 3 and 4 in NOTCH 2 burn 1 each, in 8 and 5 minutes
        ValveShop x = with(1, 0, 0, 1, 0, 0);
        CHECK.due("in 8 minutes", x.run(0, 2000, 8, 1, 0, 1), 1);
        CHECK.dueRow("REGULATOR 3", planned(x, 0), 2, 3, 8, 1);
        CHECK.due("in 7 minutes", x.run(0, 2000, 7, 1, 0, 1), 1);
        CHECK.dueRow("REGULATOR 4", planned(x, 0), 2, 4, 5, 1);
        CHECK.due("two in 13 minutes", x.run(0, 2000, 13, 1, 0, 2), 2);
        CHECK.dueRow("the first by REGULATOR 3", planned(x, 0), 2, 3, 8, 1);
        CHECK.dueRow("the second by REGULATOR 4", planned(x, 1), 2, 4, 5, 1);
        CHECK.due("two in 12 minutes", x.run(0, 2000, 12, 1, 0, 2), 2);
        CHECK.dueRow("both by REGULATOR 4", planned(x, 0), 2, 4, 5, 1);
        CHECK.dueRow("both by REGULATOR 4", planned(x, 1), 2, 4, 5, 1);
    }

    private static void ofSickOne() {
        ValveShop x = with(1, 1400, 0);
        for (int sickness = 0; sickness <= 12; sickness++) {
            x.sicken(0, sickness);
            int speed = (x.work(0, 6, 1000, 4, 0) - 1400) / 10;
            int other = (x.work(0, 5, 1000, 4, 0) - 1400) / 10;
            int answer = x.run(0, 1000, 1000, 1, 0, 1);
            CHECK.due("SICKNESS " + sickness, answer == Check.NONE ? 0 : 1, speed >= 1 || other >= 1 ? 1 : 0);
        }
    }

    private static void noneKeeps() {
        ValveShop x = with(20, 120, 1, 1, 0, 0);
        CHECK.due("none yet", x.run(0, 1000, 0, 1, 0, 1), Check.NONE);
        CHECK.due("count(7)", x.count(7), 0);
        CHECK.due("plan(0, 0)", x.plan(0, 0), Check.STATE);
        x.run(0, 1000, 500, 1, 0, 1);
        int[] was = planned(x, 0);
        x.as(0, 4);
        CHECK.due("of two, there is none", x.run(0, 1000, 1, 1, 0, 2), Check.NONE);
        CHECK.due("status()", x.status(), 0);
        CHECK.due("count(7)", x.count(7), 1);
        CHECK.dueRow("what was kept", planned(x, 0), was);
        CHECK.due("plan(1, 0)", x.plan(1, 0), Check.NONE);
    }

    private static void badKeeps() {
        ValveShop x = with(20, 120, 1, 1, 0, 2);
        x.run(0, 1000, 500, 1, 0, 1);
        int[] was = planned(x, 0);
        x.as(0, 4);
        CHECK.due("of two, one is BAD", x.run(0, 1000, 900, 1, 0, 2), Check.BAD);
        CHECK.due("status()", x.status(), 3);
        CHECK.due("count(7)", x.count(7), 1);
        CHECK.dueRow("what was kept", planned(x, 0), was);
    }

    private static void planEnds() {
        ValveShop x = with(roadOf(10));
        x.run(0, 1000, 1000, 1, 0, 10);
        for (int what = 0; what < 4; what++) {
            for (int i : new int[] {-1, 10, 11, MIN, MAX}) {
                CHECK.due("plan(" + i + ", " + what + ")", x.plan(i, what), Check.NONE);
            }
            CHECK.holds("plan(0, " + what + ")", x.plan(0, what) >= 0);
            CHECK.holds("plan(9, " + what + ")", x.plan(9, what) >= 0);
        }
        x.run(0, 1000, 1000, 1, 0, 1);
        CHECK.holds("plan(0, 0) of one", x.plan(0, 0) >= 0);
        CHECK.due("plan(1, 0) of one", x.plan(1, 0), Check.NONE);
    }

    private static void planWhats() {
        ValveShop x = with(20, 120, 1);
        x.run(0, 1000, 500, 1, 0, 1);
        CHECK.dueRow("plan", planned(x, 0), 3, 1, 403, 44);
        for (int what : new int[] {-1, 4, MIN, MAX}) {
            CHECK.due("plan(0, " + what + ")", x.plan(0, what), Check.BAD);
            CHECK.due("plan(-1, " + what + ")", x.plan(-1, what), Check.BAD);
        }
    }

    private static void planState() {
        ValveShop x = with(20, 120, 1);
        x.as(0, 4);
        for (int what = 0; what < 4; what++) {
            CHECK.due("plan(0, " + what + ")", x.plan(0, what), Check.STATE);
            CHECK.due("plan(-1, " + what + ")", x.plan(-1, what), Check.STATE);
        }
        CHECK.due("plan(0, 4)", x.plan(0, 4), Check.BAD);
        CHECK.due("status()", x.status(), 3);
    }

    private static void planKeptLast() {
        ValveShop x = with(20, 120, 1, 1, 0, 0, 1, 0, 0);
        x.run(0, 1000, 900, 1, 0, 3);
        CHECK.due("three", x.count(7), 3);
        x.run(0, 1000, 900, 1, 3, 2);
        CHECK.due("two", x.count(7), 2);
        CHECK.dueRow("the first is that of the second RUN", planned(x, 0), 2, 4, 60, 0);
        CHECK.due("no third", x.plan(2, 0), Check.NONE);
    }

    private static void planStays() {
        ValveShop x = with(20, 120, 1);
        x.run(0, 1000, 500, 1, 0, 1);
        x.as(0, 4);
        x.clear(0);
        x.sheet(1, 0, 0);
        x.drop(1);
        x.kind(0);
        CHECK.dueRow("plan", planned(x, 0), 3, 1, 403, 44);
        CHECK.due("count(7)", x.count(7), 1);
        CHECK.due("plan() leaves status()", x.status(), 1);
    }
}
