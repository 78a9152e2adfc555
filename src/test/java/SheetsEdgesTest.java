/** Promises 1 to 5: each sentence that names an edge. */
public final class SheetsEdgesTest {
    private static final Check CHECK = new Check("edges of sheets");
    private static final int MIN = Integer.MIN_VALUE, MAX = Integer.MAX_VALUE;

    private SheetsEdgesTest() {
    }

    public static void main(String[] args) {
        CHECK.sentence("1: no SHEETS, 0 to 7", SheetsEdgesTest::noSheets);
        CHECK.sentence("1: an empty SHELF, places 0 to 5", SheetsEdgesTest::emptyShelf);
        CHECK.sentence("1: no FOUND CARD, no PLAN, an empty TRACE, no FIRE", SheetsEdgesTest::nothingElse);
        CHECK.sentence("1: two objects have nothing together", SheetsEdgesTest::twoObjects);
        CHECK.sentence("What it is: an object is used for 512 calls", SheetsEdgesTest::ofManyCalls);
        CHECK.sentence("2: n ITEMS, 0 to 60: n", SheetsEdgesTest::howManyItems);
        CHECK.sentence("2: fewer than none: SIZE", SheetsEdgesTest::fewerThanNone);
        CHECK.sentence("2: n above 60: BAD", SheetsEdgesTest::moreThanSixty);
        CHECK.sentence("2: ITEMS are 0 at first, and again in place of what is there", SheetsEdgesTest::zeroAtFirst);
        CHECK.sentence("2: the LANE, too, comes in place of what is there", SheetsEdgesTest::anotherLane);
        CHECK.sentence("2: all other SHEETS stay", SheetsEdgesTest::othersStay);
        CHECK.sentence("3: the first ITEM and the last one; beyond: PLACE", SheetsEdgesTest::firstAndLast);
        CHECK.sentence("3: a SHEET of no ITEMS has no PLACE", SheetsEdgesTest::noItems);
        CHECK.sentence("3: the lowest 8 bits, read with their sign", SheetsEdgesTest::bytes);
        CHECK.sentence("3: the lowest 16 bits, read with their sign", SheetsEdgesTest::shorts);
        CHECK.sentence("3: all 32 bits", SheetsEdgesTest::ints);
        CHECK.sentence("3: what it is then is what is read later", SheetsEdgesTest::readLater);
        CHECK.sentence("3: the ITEMS beside it stay", SheetsEdgesTest::besideIt);
        CHECK.sentence("4: as they were ahead (onward in one SHEET)", SheetsEdgesTest::copyOnward);
        CHECK.sentence("4: as they were ahead (back in one SHEET)", SheetsEdgesTest::copyBack);
        CHECK.sentence("4: n from 0 on: none, at the very ends, too", SheetsEdgesTest::copyNone);
        CHECK.sentence("4: all ITEMS; one more is beyond an end", SheetsEdgesTest::copyAll);
        CHECK.sentence("4: just to the end of a, of b; one beyond: PLACE", SheetsEdgesTest::copyToTheEnds);
        CHECK.sentence("4: STORE is two LANES, of one LANE there is none", SheetsEdgesTest::copyOfLanes);
        CHECK.sentence("4: a stays, and what is beside it in b", SheetsEdgesTest::copyBeside);
        CHECK.sentence("5: how many ITEMS it had, 0 to 60; it is missing from now on", SheetsEdgesTest::drop);
        CHECK.sentence("5: all other SHEETS stay", SheetsEdgesTest::dropOthers);
        CHECK.sentence("5: one that is made anew has ITEMS of 0", SheetsEdgesTest::dropAndAnew);
        CHECK.end();
    }

    private static void noSheets() {
        CHECK.due("count(0)", new ValveShop().count(0), 0);
        for (int sheet = 0; sheet < 8; sheet++) {
            CHECK.due("set(" + sheet + ", 0, 0)", new ValveShop().set(sheet, 0, 0), Check.NULL);
            CHECK.due("drop(" + sheet + ")", new ValveShop().drop(sheet), Check.NULL);
            CHECK.due("copy(" + sheet + ", ..)", new ValveShop().copy(sheet, 0, sheet, 0, 0), Check.NULL);
            CHECK.due("engine(0, " + sheet + ", 0)", new ValveShop().engine(0, sheet, 0), Check.NULL);
            CHECK.due("whose(" + sheet + ", ..)", new ValveShop().whose(sheet, 0, 0, 0), Check.NULL);
        }
    }

    private static void emptyShelf() {
        for (int what = 1; what <= 5; what++) {
            CHECK.due("count(" + what + ")", new ValveShop().count(what), 0);
        }
        for (int place = 0; place < 6; place++) {
            CHECK.due("number(" + place + ", 0)", new ValveShop().number(place, 0), Check.NULL);
            CHECK.due("clear(" + place + ")", new ValveShop().clear(place), 0);
            CHECK.due("is(" + place + ", 0)", new ValveShop().is(place, 0), 0);
            CHECK.due("twin(0, " + place + ")", new ValveShop().twin(0, place), Check.NULL);
        }
    }

    private static void nothingElse() {
        ValveShop x = new ValveShop();
        CHECK.due("count(6)", x.count(6), 0);
        CHECK.due("count(7)", x.count(7), 0);
        for (int place = 0; place < 6; place++) {
            CHECK.due("misfit(" + place + ", 0)", x.misfit(place, 0), Check.STATE);
        }
        CHECK.due("plan(0, 0)", x.plan(0, 0), Check.STATE);
        CHECK.due("trace(0)", x.trace(0), Check.NONE);
        for (int what = 0; what < 6; what++) {
            CHECK.due("fire(" + what + ")", x.fire(what), 0);
        }
        CHECK.due("status()", x.status(), 0);
    }

    private static void twoObjects() {
        ValveShop first = new ValveShop();
        int[] alone = Full.all(Full.shop());
        ValveShop x = Full.shop();
        Full.build(first);
        first.sheet(0, 0, 3);
        first.adjust(0, 1, 11);
        first.clear(1);
        first.stoke(7);
        first.ask(2, 1);
        first.find(0, 0, 0, 7, 0);
        first.run(0, 1000, 900, 7, 0, 5);
        CHECK.dueRow("all that the other one tells", Full.all(x), alone);
    }

    private static void ofManyCalls() {
        ValveShop x = new ValveShop();
        x.sheet(0, 2, 60);
        for (int call = 2; call <= 511; call++) {
            CHECK.due("call " + call, x.set(0, call % 60, call), call);
        }
        CHECK.due("call 512", x.drop(0), 60);
    }

    private static void howManyItems() {
        for (int lane = 0; lane < 3; lane++) {
            for (int n : new int[] {0, 1, 2, 59, 60}) {
                ValveShop x = new ValveShop();
                CHECK.due("sheet(4, " + lane + ", " + n + ")", x.sheet(4, lane, n), n);
                CHECK.due("the ITEM beyond", x.set(4, n, 1), Check.PLACE);
                CHECK.due("the last ITEM", x.set(4, n - 1, 1), n == 0 ? Check.PLACE : 1);
                CHECK.due("drop(4)", x.drop(4), n);
            }
        }
    }

    private static void fewerThanNone() {
        ValveShop x = new ValveShop();
        CHECK.due("sheet(3, 0, -1)", x.sheet(3, 0, -1), Check.SIZE);
        CHECK.due("status()", x.status(), 4);
        CHECK.due("sheet(3, 2, MIN)", x.sheet(3, 2, MIN), Check.SIZE);
        CHECK.due("it is missing yet", x.count(0), 0);
        x.sheet(3, 1, 7);
        CHECK.due("status()", x.status(), 0);
        CHECK.due("sheet(3, 0, -1)", x.sheet(3, 0, -1), Check.SIZE);
        CHECK.due("it is there yet, of shorts", x.set(3, 6, 300), 300);
        CHECK.due("it has 7 ITEMS yet", x.drop(3), 7);
    }

    private static void moreThanSixty() {
        ValveShop x = new ValveShop();
        CHECK.due("sheet(3, 0, 61)", x.sheet(3, 0, 61), Check.BAD);
        CHECK.due("sheet(3, 0, MAX)", x.sheet(3, 0, MAX), Check.BAD);
        CHECK.due("it is missing yet", x.count(0), 0);
        CHECK.due("status()", x.status(), 0);
        CHECK.due("sheet(3, 0, 60)", x.sheet(3, 0, 60), 60);
    }

    private static void zeroAtFirst() {
        ValveShop x = new ValveShop();
        x.sheet(0, 2, 60);
        CHECK.dueRow("the first ITEMS", Shops.items(x, 0, 3), 0, 0, 0);
        CHECK.due("the last ITEM", Shops.item(x, 0, 59), 0);
        x.set(0, 0, 5);
        x.set(0, 1, 6);
        x.set(0, 59, 7);
        x.sheet(0, 2, 60);
        CHECK.dueRow("the first ITEMS anew", Shops.items(x, 0, 2), 0, 0);
        CHECK.due("the last ITEM anew", Shops.item(x, 0, 59), 0);
        x.set(0, 59, 7);
        x.sheet(0, 2, 1);
        x.sheet(0, 2, 60);
        CHECK.due("the last ITEM after a shorter one", Shops.item(x, 0, 59), 0);
    }

    private static void anotherLane() {
        ValveShop x = new ValveShop();
        int[] due = {-128, -32640, 98432};
        for (int lane : new int[] {2, 0, 1, 2, 1, 0}) {
            x.sheet(6, lane, 1);
            CHECK.due("set in LANE " + lane, x.set(6, 0, 98432), due[lane]);
        }
    }

    private static void othersStay() {
        ValveShop x = new ValveShop();
        Shops.fill(x, 0, 1, 2, 3);
        Shops.fill(x, 2, 4, 5, 6);
        x.sheet(1, 0, 3);
        CHECK.dueRow("SHEET 0", Shops.items(x, 0, 3), 1, 2, 3);
        CHECK.dueRow("SHEET 2", Shops.items(x, 2, 3), 4, 5, 6);
        CHECK.due("count(0)", x.count(0), 3);
    }

    private static void firstAndLast() {
        for (int sheet = 0; sheet < 8; sheet++) {
            ValveShop x = new ValveShop();
            int n = 5 * sheet + 3;
            x.sheet(sheet, sheet % 3, n);
            CHECK.due("the first", x.set(sheet, 0, 17), 17);
            CHECK.due("the last", x.set(sheet, n - 1, 18), 18);
            CHECK.due("one beyond", x.set(sheet, n, 19), Check.PLACE);
            CHECK.due("status()", x.status(), 2);
            CHECK.due("one ahead", x.set(sheet, -1, 19), Check.PLACE);
            CHECK.due("MAX", x.set(sheet, MAX, 19), Check.PLACE);
            CHECK.due("MIN", x.set(sheet, MIN, 19), Check.PLACE);
        }
    }

    private static void noItems() {
        ValveShop x = new ValveShop();
        x.sheet(0, 0, 0);
        CHECK.due("set(0, 0, 1)", x.set(0, 0, 1), Check.PLACE);
        CHECK.due("set(0, -1, 1)", x.set(0, -1, 1), Check.PLACE);
        CHECK.due("copy of none", x.copy(0, 0, 0, 0, 0), 0);
        CHECK.due("copy of one", x.copy(0, 0, 0, 0, 1), Check.PLACE);
        CHECK.due("engine", x.engine(0, 0, 0), Check.PLACE);
        CHECK.due("drop", x.drop(0), 0);
    }

    private static void lane(int lane, int[][] due) {
        ValveShop x = new ValveShop();
        x.sheet(0, lane, 1);
        for (int[] pair : due) {
            CHECK.due("set(0, 0, " + pair[0] + ") in LANE " + lane, x.set(0, 0, pair[0]), pair[1]);
        }
    }

    private static void bytes() {
        lane(0, new int[][] {{0, 0}, {1, 1}, {-1, -1}, {127, 127}, {128, -128}, {129, -127}, {254, -2}, {255, -1}, {256, 0}, {257, 1},
            {-127, -127}, {-128, -128}, {-129, 127}, {-255, 1}, {-256, 0}, {-257, -1}, {32767, -1}, {MAX, -1}, {MIN, 0}, {MIN + 200, -56}});
    }

    private static void shorts() {
        lane(1, new int[][] {{0, 0}, {255, 255}, {256, 256}, {-1, -1}, {32767, 32767}, {32768, -32768}, {32769, -32767}, {65535, -1},
            {65536, 0}, {65537, 1}, {-32768, -32768}, {-32769, 32767}, {-65535, 1}, {-65536, 0}, {MAX, -1}, {MIN, 0}});
    }

    private static void ints() {
        lane(2, new int[][] {{0, 0}, {65536, 65536}, {-65537, -65537}, {MAX, MAX}, {MIN, MIN}, {MAX - 1, MAX - 1}, {MIN + 1, MIN + 1}});
    }

    private static void readLater() {
        ValveShop x = new ValveShop();
        x.sheet(0, 0, 11);
        int[] numbers = {256, 100, 258, 509, 40, 236, 296, 50, -246, 10, 512};
        for (int i = 0; i < 11; i++) {
            x.set(0, i, numbers[i]);
        }
        CHECK.due("an ENGINE of bytes", x.engine(0, 0, 0), 1);
        int[] due = {0, 100, 2, -3, 40, -20, 40, 50, 10, 10, 0};
        for (int which = 0; which < 11; which++) {
            CHECK.due("number(0, " + which + ")", x.number(0, which), due[which]);
        }
        x.set(0, 1, 200);
        CHECK.due("THROW 200 is -56 in a byte", x.engine(0, 0, 0), Check.BAD);
    }

    private static void besideIt() {
        ValveShop x = new ValveShop();
        Shops.fill(x, 0, 10, 20, 30, 40, 50);
        x.set(0, 2, 33);
        CHECK.dueRow("SHEET 0", Shops.items(x, 0, 5), 10, 20, 33, 40, 50);
    }

    private static void copyOnward() {
        for (int by = 1; by <= 4; by++) {
            ValveShop x = new ValveShop();
            Shops.fill(x, 0, 1, 2, 3, 4, 5, 6);
            CHECK.due("copy on by " + by, x.copy(0, 0, 0, by, 6 - by), 6 - by);
            int[] due = new int[6];
            for (int i = 0; i < 6; i++) {
                due[i] = i < by ? i + 1 : i + 1 - by;
            }
            CHECK.dueRow("on by " + by, Shops.items(x, 0, 6), due);
        }
    }

    private static void copyBack() {
        for (int by = 1; by <= 4; by++) {
            ValveShop x = new ValveShop();
            Shops.fill(x, 0, 1, 2, 3, 4, 5, 6);
            CHECK.due("copy back by " + by, x.copy(0, by, 0, 0, 6 - by), 6 - by);
            int[] due = new int[6];
            for (int i = 0; i < 6; i++) {
                due[i] = i < 6 - by ? i + 1 + by : i + 1;
            }
            CHECK.dueRow("back by " + by, Shops.items(x, 0, 6), due);
        }
    }

    private static void copyNone() {
        ValveShop x = new ValveShop();
        Shops.fill(x, 0, 1, 2, 3);
        Shops.fill(x, 1, 4, 5);
        CHECK.due("none", x.copy(0, 0, 1, 0, 0), 0);
        CHECK.due("none at both ends", x.copy(0, 3, 1, 2, 0), 0);
        CHECK.due("none beyond the end of a", x.copy(0, 4, 1, 2, 0), Check.PLACE);
        CHECK.due("none beyond the end of b", x.copy(0, 3, 1, 3, 0), Check.PLACE);
        CHECK.due("fewer than none", x.copy(0, 0, 1, 0, -1), Check.PLACE);
        CHECK.due("fewer than none, from the end", x.copy(0, 3, 1, 2, -1), Check.PLACE);
        CHECK.dueRow("SHEET 0", Shops.items(x, 0, 3), 1, 2, 3);
        CHECK.dueRow("SHEET 1", Shops.items(x, 1, 2), 4, 5);
    }

    private static void copyAll() {
        ValveShop x = new ValveShop();
        x.sheet(0, 2, 60);
        x.sheet(6, 2, 60);
        x.set(0, 0, 77);
        x.set(0, 59, 78);
        CHECK.due("61", x.copy(0, 0, 6, 0, 61), Check.PLACE);
        CHECK.due("nothing came", Shops.item(x, 6, 0), 0);
        CHECK.due("60", x.copy(0, 0, 6, 0, 60), 60);
        CHECK.due("the first", Shops.item(x, 6, 0), 77);
        CHECK.due("the last", Shops.item(x, 6, 59), 78);
        CHECK.due("59 from 1 on", x.copy(0, 0, 6, 1, 59), 59);
        CHECK.due("60 from 1 on", x.copy(0, 0, 6, 1, 60), Check.PLACE);
        CHECK.due("the second", Shops.item(x, 6, 1), 77);
        CHECK.due("the last", Shops.item(x, 6, 59), 0);
    }

    private static void copyToTheEnds() {
        ValveShop x = new ValveShop();
        Shops.fill(x, 0, 1, 2, 3, 4, 5);
        Shops.fill(x, 1, 10, 20, 30);
        CHECK.due("to the end of b", x.copy(0, 0, 1, 1, 2), 2);
        CHECK.due("beyond the end of b", x.copy(0, 0, 1, 1, 3), Check.PLACE);
        CHECK.due("from the last of a", x.copy(0, 4, 1, 0, 1), 1);
        CHECK.due("beyond the end of a", x.copy(0, 4, 1, 0, 2), Check.PLACE);
        CHECK.due("to the last of b", x.copy(0, 2, 1, 2, 1), 1);
        CHECK.due("to the one beyond", x.copy(0, 2, 1, 3, 1), Check.PLACE);
        CHECK.due("from the one beyond", x.copy(0, 5, 1, 2, 1), Check.PLACE);
        CHECK.due("from the one ahead", x.copy(0, -1, 1, 0, 1), Check.PLACE);
        CHECK.due("to the one ahead", x.copy(0, 0, 1, -1, 1), Check.PLACE);
        CHECK.due("status()", x.status(), 2);
        CHECK.dueRow("SHEET 1", Shops.items(x, 1, 3), 5, 1, 3);
        CHECK.dueRow("SHEET 0", Shops.items(x, 0, 5), 1, 2, 3, 4, 5);
    }

    private static void copyOfLanes() {
        for (int a = 0; a < 3; a++) {
            for (int b = 0; b < 3; b++) {
                ValveShop x = new ValveShop();
                x.sheet(0, a, 2);
                x.sheet(1, b, 2);
                CHECK.due("LANES " + a + ", " + b, x.copy(0, 0, 1, 1, 1), a == b ? 1 : Check.STORE);
                CHECK.due("LANES " + a + ", " + b + ", none", x.copy(0, 0, 1, 0, 0), a == b ? 0 : Check.STORE);
                CHECK.due("status()", x.status(), a == b ? 0 : 5);
            }
        }
    }

    private static void copyBeside() {
        ValveShop x = new ValveShop();
        Shops.fill(x, 0, 1, 2, 3, 4, 5);
        Shops.fill(x, 1, 10, 20, 30, 40, 50);
        CHECK.due("copy", x.copy(0, 1, 1, 2, 2), 2);
        CHECK.dueRow("SHEET 0", Shops.items(x, 0, 5), 1, 2, 3, 4, 5);
        CHECK.dueRow("SHEET 1", Shops.items(x, 1, 5), 10, 20, 2, 3, 50);
    }

    private static void drop() {
        for (int n : new int[] {0, 1, 60}) {
            ValveShop x = new ValveShop();
            x.sheet(7, 1, n);
            CHECK.due("drop(7)", x.drop(7), n);
            CHECK.due("status()", x.status(), 0);
            CHECK.due("once more", x.drop(7), Check.NULL);
            CHECK.due("status()", x.status(), 1);
            CHECK.due("set", x.set(7, 0, 0), Check.NULL);
            CHECK.due("count(0)", x.count(0), 0);
        }
    }

    private static void dropOthers() {
        ValveShop x = new ValveShop();
        Shops.fill(x, 0, 1, 2);
        Shops.fill(x, 1, 3, 4);
        Shops.fill(x, 2, 5, 6);
        x.drop(1);
        CHECK.due("count(0)", x.count(0), 2);
        CHECK.dueRow("SHEET 0", Shops.items(x, 0, 2), 1, 2);
        CHECK.dueRow("SHEET 2", Shops.items(x, 2, 2), 5, 6);
    }

    private static void dropAndAnew() {
        ValveShop x = new ValveShop();
        Shops.fill(x, 1, 3, 4, 5);
        x.drop(1);
        CHECK.due("sheet(1, 2, 3)", x.sheet(1, 2, 3), 3);
        CHECK.dueRow("SHEET 1", Shops.items(x, 1, 3), 0, 0, 0);
    }
}
