/** Promises 29 to 31. */
public final class FireTest {
    private static final Check CHECK = new Check("the fire");

    private FireTest() {
    }

    public static void main(String[] args) {
        stoke();
        standing();
        drinking();
        minuteRefused();
        fire();
        CHECK.end();
    }

    private static int[] fireOf(ValveShop x) {
        int[] row = new int[6];
        for (int what = 0; what < 6; what++) {
            row[what] = x.fire(what);
        }
        return row;
    }

    private static void stoke() {
        ValveShop x = Shops.plain();
        x.kind(3);
        CHECK.due("29: stoke(1)", x.stoke(1), 1);
        CHECK.due("29: stoke(1000)", x.stoke(1000), 1001);
        CHECK.due("29: stoke(0)", x.stoke(0), Check.BAD);
        CHECK.due("29: stoke(-1)", x.stoke(-1), Check.BAD);
        CHECK.due("29: stoke(1001)", x.stoke(1001), Check.BAD);
        CHECK.due("29: stoke(MAX)", x.stoke(Integer.MAX_VALUE), Check.BAD);
        for (int i = 0; i < 8; i++) {
            x.stoke(1000);
        }
        CHECK.due("29: FULL", x.stoke(1000), Check.FULL);
        CHECK.due("29: nothing changes", x.fire(1), 9001);
        CHECK.due("29: 10000", x.stoke(999), 10000);
        CHECK.due("29: FULL", x.stoke(1), Check.FULL);
        CHECK.due("29: BAD ahead of FULL", x.stoke(1001), Check.BAD);
        CHECK.due("29: it leaves status", x.status(), 1);
        x.minute(0, 0, 0);
        CHECK.due("29: coals burnt make room", x.stoke(20), 10000);
    }

    private static void standing() {
        ValveShop x = Shops.plain();
        x.stoke(350);
        for (int i = 1; i <= 15; i++) {
            CHECK.due("30: standing", x.minute(0, 6, 0), 100 * i);
        }
        CHECK.dueRow("31: nothing blown yet", fireOf(x), 1500, 50, 300, 0, 0, 15);
        CHECK.due("30: above 1500", x.minute(0, 6, 0), 1500);
        CHECK.dueRow("31: BLOWN", fireOf(x), 1500, 30, 320, 0, 100, 16);
        x.minute(0, 6, 0);
        CHECK.due("30: the lesser of HEAP and 20", x.minute(0, 6, 0), 1500);
        CHECK.dueRow("31: the HEAP is burnt", fireOf(x), 1500, 0, 350, 0, 250, 18);
        CHECK.due("30: no coals", x.minute(0, 6, 0), 1500);
        CHECK.dueRow("31: a MINUTE all the same", fireOf(x), 1500, 0, 350, 0, 250, 19);
    }

    private static void drinking() {
        ValveShop x = Shops.plain();
        x.stoke(1000);
        int gauge = 0;
        int drunk = 0;
        for (int i = 0; i < 12; i++) {
            int drink = Shops.plain().work(0, 6, gauge + 100, 4, 1) / 100;
            gauge += 100 - drink;
            drunk += drink;
            CHECK.due("30: by DRINK with GAUGE for its BOILER", x.minute(0, 6, 4), gauge);
        }
        CHECK.due("30: it drank", drunk > 0 ? 1 : 0, 1);
        CHECK.dueRow("31: the fire", fireOf(x), gauge, 760, 240, drunk, 0, 12);
        CHECK.due("30: status", x.status(), 0);
        ValveShop thirsty = Shops.with(0, 200, 11, 20, 0, -20, 100, 200, 1, 1, 0);
        thirsty.stoke(20);
        int wanted = Shops.with(0, 200, 11, 20, 0, -20, 100, 200, 1, 1, 0).work(0, 6, 100, 4, 1) / 100;
        CHECK.due("30: as far as GAUGE has it", thirsty.minute(0, 6, 4), Math.max(0, 100 - wanted));
        CHECK.due("31: DRUNK", thirsty.fire(3), Math.min(100, wanted));
        CHECK.due("30: nothing to drink", new ValveShop().minute(0, 6, 4), Check.NULL);
    }

    private static void minuteRefused() {
        ValveShop x = Shops.plain();
        x.stoke(100);
        CHECK.due("30: place 6", x.minute(6, 0, 0), Check.BAD);
        CHECK.due("30: place -1", x.minute(-1, 0, 0), Check.BAD);
        CHECK.due("30: NOTCH 7", x.minute(0, 7, 0), Check.BAD);
        CHECK.due("30: NOTCH -7", x.minute(0, -7, 0), Check.BAD);
        CHECK.due("30: REGULATOR 5", x.minute(0, 0, 5), Check.BAD);
        CHECK.due("30: REGULATOR -1", x.minute(0, 0, -1), Check.BAD);
        CHECK.due("30: empty, BAD first", x.minute(1, 0, 5), Check.BAD);
        CHECK.due("30: BAD leaves status", x.status(), 0);
        CHECK.due("30: empty", x.minute(1, 0, 0), Check.NULL);
        CHECK.due("30: status", x.status(), 1);
        CHECK.dueRow("31: nothing burnt", fireOf(x), 0, 100, 0, 0, 0, 0);
    }

    private static void fire() {
        ValveShop x = Shops.plain();
        x.kind(3);
        CHECK.due("31: fire(6)", x.fire(6), Check.BAD);
        CHECK.due("31: fire(-1)", x.fire(-1), Check.BAD);
        CHECK.due("31: fire(0)", x.fire(0), 0);
        CHECK.due("31: it leaves status", x.status(), 1);
    }
}
