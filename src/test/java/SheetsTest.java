/** Promises 1 to 5. */
public final class SheetsTest {
    private static final Check CHECK = new Check("sheets");

    private SheetsTest() {
    }

    public static void main(String[] args) {
        newObject();
        sheet();
        set();
        copy();
        copyRefused();
        drop();
        CHECK.end();
    }

    private static void newObject() {
        ValveShop x = new ValveShop();
        for (int what = 0; what < 8; what++) {
            CHECK.due("1: count(" + what + ")", x.count(what), 0);
        }
        for (int what = 0; what < 6; what++) {
            CHECK.due("1: fire(" + what + ")", x.fire(what), 0);
        }
        CHECK.due("1: status()", x.status(), 0);
        CHECK.due("1: trace(0)", x.trace(0), Check.NONE);
        CHECK.due("1: plan(0, 0)", x.plan(0, 0), Check.STATE);
        for (int sheet = 0; sheet < 8; sheet++) {
            CHECK.due("1: drop(" + sheet + ")", x.drop(sheet), Check.NULL);
        }
        for (int place = 0; place < 6; place++) {
            CHECK.due("1: clear(" + place + ")", x.clear(place), 0);
            CHECK.due("1: kind(" + place + ")", x.kind(place), Check.NULL);
        }
    }

    private static void sheet() {
        ValveShop x = new ValveShop();
        CHECK.due("2: sheet(0, 2, 60)", x.sheet(0, 2, 60), 60);
        CHECK.due("2: status", x.status(), 0);
        CHECK.due("2: sheet(7, 0, 0)", x.sheet(7, 0, 0), 0);
        CHECK.due("2: none", x.set(7, 0, 1), Check.PLACE);
        CHECK.due("2: count(0)", x.count(0), 2);
        CHECK.due("2: sheet(0, 2, -1)", x.sheet(0, 2, -1), Check.SIZE);
        CHECK.due("2: status", x.status(), 4);
        CHECK.due("2: sheet(0, 2, MIN)", x.sheet(0, 2, Integer.MIN_VALUE), Check.SIZE);
        CHECK.due("2: sheet(0, 2, 61)", x.sheet(0, 2, 61), Check.BAD);
        CHECK.due("2: sheet(0, 2, MAX)", x.sheet(0, 2, Integer.MAX_VALUE), Check.BAD);
        CHECK.due("2: sheet(8, 2, 1)", x.sheet(8, 2, 1), Check.BAD);
        CHECK.due("2: sheet(-1, 2, -1)", x.sheet(-1, 2, -1), Check.BAD);
        CHECK.due("2: sheet(0, 3, -1)", x.sheet(0, 3, -1), Check.BAD);
        CHECK.due("2: sheet(0, -1, 1)", x.sheet(0, -1, 1), Check.BAD);
        CHECK.due("2: BAD leaves status", x.status(), 4);
        CHECK.due("2: the SHEET stands yet", x.set(0, 59, 7), 7);
        CHECK.due("2: in place of it", x.sheet(0, 2, 3), 3);
        CHECK.due("2: ITEMS are 0", x.sheet(0, 2, 60), 60);
        CHECK.due("2: ITEMS are 0", Shops.item(x, 0, 59), 0);
        CHECK.due("2: fewer ITEMS", x.sheet(0, 2, 3), 3);
        CHECK.due("2: fewer ITEMS", x.set(0, 3, 1), Check.PLACE);
    }

    private static void set() {
        ValveShop x = new ValveShop();
        x.sheet(0, 0, 2);
        x.sheet(1, 1, 2);
        x.sheet(2, 2, 2);
        int[] told = {0, 1, 127, 128, 255, 256, -1, -128, -129, 32767, 32768, 65535, 65536, 1000000,
            Integer.MAX_VALUE, Integer.MIN_VALUE};
        for (int v : told) {
            CHECK.due("3: set(0, 1, " + v + ")", x.set(0, 1, v), (byte) v);
            CHECK.due("3: set(1, 1, " + v + ")", x.set(1, 1, v), (short) v);
            CHECK.due("3: set(2, 1, " + v + ")", x.set(2, 1, v), v);
        }
        CHECK.due("3: bytes", x.set(0, 0, 200), -56);
        CHECK.due("3: shorts", x.set(1, 0, 40000), -25536);
        x.set(2, 0, 3);
        x.set(2, 1, 5);
        CHECK.dueRow("3: just that ITEM", Shops.items(x, 2, 2), 3, 5);
        CHECK.due("3: set(8, 0, 0)", x.set(8, 0, 0), Check.BAD);
        CHECK.due("3: set(-1, 9, 0)", x.set(-1, 9, 0), Check.BAD);
        CHECK.due("3: set(3, 9, 0)", x.set(3, 9, 0), Check.NULL);
        CHECK.due("3: status", x.status(), 1);
        CHECK.due("3: set(2, 2, 0)", x.set(2, 2, 0), Check.PLACE);
        CHECK.due("3: set(2, -1, 0)", x.set(2, -1, 0), Check.PLACE);
        CHECK.due("3: set(2, MAX, 0)", x.set(2, Integer.MAX_VALUE, 0), Check.PLACE);
        CHECK.due("3: set(2, MIN, 0)", x.set(2, Integer.MIN_VALUE, 0), Check.PLACE);
        CHECK.due("3: status", x.status(), 2);
    }

    private static void copy() {
        ValveShop x = new ValveShop();
        Shops.fill(x, 0, 1, 2, 3, 4, 5);
        CHECK.due("4: onward", x.copy(0, 0, 0, 1, 4), 4);
        CHECK.dueRow("4: as they were ahead", Shops.items(x, 0, 5), 1, 1, 2, 3, 4);
        Shops.fill(x, 0, 1, 2, 3, 4, 5);
        CHECK.due("4: back", x.copy(0, 1, 0, 0, 4), 4);
        CHECK.dueRow("4: as they were ahead", Shops.items(x, 0, 5), 2, 3, 4, 5, 5);
        Shops.fill(x, 1, 10, 20, 30);
        CHECK.due("4: to another", x.copy(1, 1, 0, 3, 2), 2);
        CHECK.dueRow("4: to another", Shops.items(x, 0, 5), 2, 3, 4, 20, 30);
        CHECK.dueRow("4: the first one stays", Shops.items(x, 1, 3), 10, 20, 30);
        CHECK.due("4: none at the end", x.copy(0, 5, 1, 3, 0), 0);
        CHECK.due("4: status", x.status(), 0);
        CHECK.due("4: all", x.copy(0, 0, 0, 0, 5), 5);
        Shops.fill(x, 7, 1, 2, 3, 4, 5);
        CHECK.due("4: from the last SHEET", x.copy(7, 1, 0, 1, 4), 4);
        CHECK.due("4: to the last SHEET", x.copy(0, 1, 7, 1, 4), 4);
    }

    private static void copyRefused() {
        ValveShop x = new ValveShop();
        Shops.fill(x, 0, 1, 2, 3, 4, 5);
        x.sheet(1, 2, 3);
        x.sheet(2, 1, 3);
        CHECK.due("4: copy(8, ..)", x.copy(8, 0, 0, 0, 0), Check.BAD);
        CHECK.due("4: copy(.., -1, ..)", x.copy(3, 0, -1, 0, 0), Check.BAD);
        CHECK.due("4: copy(.., 8, ..)", x.copy(3, 0, 8, 0, 0), Check.BAD);
        CHECK.due("4: copy(-1, ..)", x.copy(-1, 0, 0, 0, 0), Check.BAD);
        CHECK.due("4: no first", x.copy(3, 0, 0, 0, 0), Check.NULL);
        CHECK.due("4: no second", x.copy(0, 9, 3, 0, 0), Check.NULL);
        CHECK.due("4: status", x.status(), 1);
        CHECK.due("4: two LANES", x.copy(0, 9, 2, 9, -1), Check.STORE);
        CHECK.due("4: status", x.status(), 5);
        CHECK.due("4: n below 0", x.copy(0, 0, 1, 0, -1), Check.PLACE);
        CHECK.due("4: i below 0", x.copy(0, -1, 1, 0, 1), Check.PLACE);
        CHECK.due("4: j below 0", x.copy(0, 0, 1, -1, 1), Check.PLACE);
        CHECK.due("4: i beyond", x.copy(0, 6, 1, 0, 0), Check.PLACE);
        CHECK.due("4: j beyond", x.copy(0, 0, 1, 4, 0), Check.PLACE);
        CHECK.due("4: beyond the end of a", x.copy(1, 1, 0, 0, 3), Check.PLACE);
        CHECK.due("4: beyond the end of b", x.copy(0, 0, 1, 0, 4), Check.PLACE);
        CHECK.due("4: i MAX", x.copy(0, Integer.MAX_VALUE, 1, 0, 1), Check.PLACE);
        CHECK.due("4: n MAX", x.copy(0, 1, 1, 0, Integer.MAX_VALUE), Check.PLACE);
        CHECK.due("4: n MIN", x.copy(0, 0, 1, 0, Integer.MIN_VALUE), Check.PLACE);
        CHECK.due("4: status", x.status(), 2);
        CHECK.dueRow("4: nothing changed", Shops.items(x, 0, 5), 1, 2, 3, 4, 5);
    }

    private static void drop() {
        ValveShop x = new ValveShop();
        x.sheet(3, 1, 17);
        CHECK.due("5: drop(3)", x.drop(3), 17);
        CHECK.due("5: status", x.status(), 0);
        CHECK.due("5: count(0)", x.count(0), 0);
        CHECK.due("5: once more", x.drop(3), Check.NULL);
        CHECK.due("5: status", x.status(), 1);
        CHECK.due("5: set", x.set(3, 0, 0), Check.NULL);
        CHECK.due("5: drop(8)", x.drop(8), Check.BAD);
        CHECK.due("5: drop(-1)", x.drop(-1), Check.BAD);
        x.sheet(0, 0, 0);
        CHECK.due("5: none", x.drop(0), 0);
        CHECK.due("5: made anew", x.sheet(3, 2, 2), 2);
    }
}
