/** Promises 32 to 38. */
public final class AskedTest {
    private static final Check CHECK = new Check("asked");

    private AskedTest() {
    }

    public static void main(String[] args) {
        kind();
        is();
        as();
        askSoundOnes();
        askSickOnes();
        askRefused();
        trace();
        count();
        status();
        whatLeavesStatus();
        CHECK.end();
    }

    /** Places 0 to 3: SOUND, EVEN, SICK, STUCK; 4 and 5 are empty. */
    private static ValveShop withAll() {
        ValveShop x = Shops.plain();
        x.twin(1, 0);
        x.tune(1);
        x.twin(2, 0);
        x.sicken(2, 12);
        x.twin(3, 2);
        x.adjust(3, 1, 10);
        return x;
    }

    private static void kind() {
        ValveShop x = withAll();
        CHECK.due("32: SOUND", x.kind(0), 1);
        CHECK.due("32: EVEN", x.kind(1), 2);
        CHECK.due("32: SICK", x.kind(2), 3);
        CHECK.due("32: STUCK", x.kind(3), 4);
        CHECK.due("32: status", x.status(), 0);
        x.sicken(3, 0);
        CHECK.due("32: well again", x.kind(3), 1);
        x.sicken(1, 12);
        CHECK.due("32: EVEN, but SICK", x.kind(1), 3);
        Shops.put(x, 4, Shops.SHUT);
        x.sicken(4, 1);
        CHECK.due("32: WORK 0", x.work(4, 6, 1000, 4, 0), 0);
        CHECK.due("32: WORK 0 is STUCK", x.kind(4), 4);
        CHECK.due("32: place 6", x.kind(6), Check.BAD);
        CHECK.due("32: place -1", x.kind(-1), Check.BAD);
        CHECK.due("32: empty", x.kind(5), Check.NULL);
        CHECK.due("32: status", x.status(), 1);
        unlikeSixAndSeven();
        workOneAndLess();
    }

    private static void workOneAndLess() {
        ValveShop x = Shops.with(11, 193, 9, 9, 0, 14, 49, 30, 98, 1, 421);
        x.sicken(0, 9);
        CHECK.due("32: WORK 1", x.work(0, 6, 1000, 4, 0), 1);
        CHECK.due("32: WORK 1 is not STUCK", x.kind(0), 3);
        x = Shops.with(4, 144, 10, 16, 19, 44, 30, 97, 32, 28, 342);
        x.sicken(0, 11);
        CHECK.due("32: by BOILER 1001 there is some WORK", x.work(0, 6, 1001, 4, 0) > 0 ? 1 : 0, 1);
        CHECK.due("32: by BOILER 1000 there is none", x.kind(0), 4);
        x.kind(3);
        x.kind(0);
        CHECK.due("32: status", x.status(), 0);
    }

    private static void unlikeSixAndSeven() {
        int even = 0;
        int sound = 0;
        for (int hang = -20; hang <= 20; hang++) {
            for (int lap = 10; lap < 40; lap += 3) {
                ValveShop x = Shops.with(0, 100, 4, hang, lap, 0, 40, 50, 10, 10, 100);
                int unlike = x.valves(0, 0);
                if (unlike == 6) {
                    even++;
                    CHECK.due("32: UNLIKE 6", x.kind(0), 2);
                } else if (unlike == 7) {
                    sound++;
                    CHECK.due("32: UNLIKE 7", x.kind(0), 1);
                }
            }
        }
        CHECK.due("32: both were looked at", even > 0 && sound > 0 ? 1 : 0, 1);
    }

    private static void is() {
        ValveShop x = withAll();
        int[][] due = {{1, 1, 0, 0, 0}, {1, 1, 1, 0, 0}, {1, 0, 0, 1, 0}, {1, 0, 0, 1, 1}, {0, 0, 0, 0, 0}};
        x.kind(5);
        for (int place = 0; place < 5; place++) {
            for (int kind = 0; kind < 5; kind++) {
                CHECK.due("33: is(" + place + ", " + kind + ")", x.is(place, kind), due[place][kind]);
            }
        }
        CHECK.due("33: kind 5", x.is(0, 5), Check.BAD);
        CHECK.due("33: kind -1", x.is(5, -1), Check.BAD);
        CHECK.due("33: place 6", x.is(6, 0), Check.BAD);
        CHECK.due("33: place -1", x.is(-1, 0), Check.BAD);
        CHECK.due("33: it leaves status", x.status(), 1);
    }

    private static void as() {
        ValveShop x = withAll();
        x.adjust(1, 1, 101);
        x.tune(1);
        int[] throwOf = {100, 101, 100, 10};
        for (int place = 0; place < 4; place++) {
            for (int kind = 0; kind < 5; kind++) {
                boolean fits = x.is(place, kind) == 1;
                CHECK.due("34: as(" + place + ", " + kind + ")", x.as(place, kind), fits ? throwOf[place] : Check.KIND);
                CHECK.due("34: status", x.status(), fits ? 0 : 3);
            }
        }
        CHECK.due("34: empty", x.as(4, 0), Check.NULL);
        CHECK.due("34: status", x.status(), 1);
        CHECK.due("34: kind 5", x.as(4, 5), Check.BAD);
        CHECK.due("34: kind -1", x.as(0, -1), Check.BAD);
        CHECK.due("34: place 6", x.as(6, 0), Check.BAD);
        CHECK.due("34: BAD leaves status", x.status(), 1);
    }

    private static int[] traceOf(ValveShop x) {
        int n = 0;
        while (n < 16 && x.trace(n) != Check.NONE) {
            n++;
        }
        int[] row = new int[n];
        for (int i = 0; i < n; i++) {
            row[i] = x.trace(i);
        }
        return row;
    }

    private static void askSoundOnes() {
        ValveShop x = withAll();
        CHECK.due("35: WORTH of a SOUND one", x.ask(0, 0), 100);
        CHECK.dueRow("36: its BODIES", traceOf(x), 11, 10);
        CHECK.due("35: MARK of a SOUND one", x.ask(0, 1), 40);
        CHECK.dueRow("36: its BODY", traceOf(x), 20);
        x.adjust(0, 4, 5);
        x.adjust(0, 3, 15);
        CHECK.due("35: LEAD", x.valves(0, 1), 35);
        CHECK.due("35: SOUND yet", x.kind(0), 1);
        CHECK.due("35: with LEAD", x.ask(0, 0), 135);
        CHECK.due("35: LAP", x.ask(0, 1), 5);
        CHECK.due("35: WORTH of an EVEN one", x.ask(1, 0), 240);
        CHECK.dueRow("36: its BODIES", traceOf(x), 12, 11, 10, 21, 20);
        CHECK.due("35: MARK of an EVEN one", x.ask(1, 1), 140);
        CHECK.dueRow("36: its BODIES", traceOf(x), 21, 20);
        CHECK.due("35: status", x.status(), 0);
    }

    private static void askSickOnes() {
        ValveShop x = withAll();
        CHECK.due("35: WORTH of a SICK one", x.ask(2, 0), 88);
        CHECK.dueRow("36: its BODIES", traceOf(x), 13, 10);
        CHECK.due("35: MARK of a SICK one", x.ask(2, 1), 128);
        CHECK.dueRow("36: its BODIES", traceOf(x), 22, 20, 13, 10);
        CHECK.due("35: WORTH of a STUCK one", x.ask(3, 0), -4);
        CHECK.dueRow("36: its BODIES", traceOf(x), 14, 13, 10);
        CHECK.due("35: MARK of a STUCK one", x.ask(3, 1), -964);
        CHECK.dueRow("36: its BODIES", traceOf(x), 23, 22, 20, 14, 13, 10);
    }

    private static void askRefused() {
        ValveShop x = withAll();
        x.ask(0, 0);
        CHECK.due("35: what 2", x.ask(0, 2), Check.BAD);
        CHECK.due("35: what -1", x.ask(0, -1), Check.BAD);
        CHECK.due("35: place 6", x.ask(6, 0), Check.BAD);
        CHECK.due("35: place -1", x.ask(-1, 0), Check.BAD);
        CHECK.dueRow("36: BAD leaves THE TRACE", traceOf(x), 11, 10);
        CHECK.due("35: status", x.status(), 0);
        CHECK.due("35: empty", x.ask(4, 0), Check.NULL);
        CHECK.due("35: status", x.status(), 1);
        CHECK.dueRow("36: NULL empties THE TRACE", traceOf(x));
        CHECK.due("35: empty, BAD first", x.ask(4, 2), Check.BAD);
    }

    private static void trace() {
        ValveShop x = withAll();
        CHECK.due("36: nothing yet", x.trace(0), Check.NONE);
        x.ask(1, 0);
        x.kind(2);
        x.as(3, 0);
        x.kind(5);
        CHECK.due("36: trace(0)", x.trace(0), 12);
        CHECK.due("36: trace(4)", x.trace(4), 20);
        CHECK.due("36: trace(5)", x.trace(5), Check.NONE);
        CHECK.due("36: trace(-1)", x.trace(-1), Check.NONE);
        CHECK.due("36: trace(16)", x.trace(16), Check.NONE);
        CHECK.due("36: trace(MAX)", x.trace(Integer.MAX_VALUE), Check.NONE);
        CHECK.due("36: trace(MIN)", x.trace(Integer.MIN_VALUE), Check.NONE);
        CHECK.due("36: it leaves status", x.status(), 1);
    }

    private static void count() {
        ValveShop x = withAll();
        x.sheet(1, 2, 48);
        x.sheet(2, 2, 3);
        x.find(0, 6, 1000, 1, 0);
        x.find(3, 6, 1000, 1, 0);
        x.twin(4, 2);
        x.twin(5, 2);
        x.set(2, 0, 1);
        x.run(0, 1000, 1000, 2, 0, 1);
        x.sheet(2, 0, -1);
        int[] due = {2, 6, 2, 1, 4, 1, 2, 1};
        for (int what = 0; what < 8; what++) {
            CHECK.due("37: count(" + what + ")", x.count(what), due[what]);
        }
        x.clear(3);
        x.clear(1);
        x.drop(1);
        int[] less = {1, 4, 1, 0, 3, 0, 1, 1};
        for (int what = 0; what < 8; what++) {
            CHECK.due("37: count(" + what + ")", x.count(what), less[what]);
        }
        x.kind(1);
        CHECK.due("37: count(8)", x.count(8), Check.BAD);
        CHECK.due("37: count(-1)", x.count(-1), Check.BAD);
        CHECK.due("37: it leaves status", x.status(), 1);
    }

    private static void status() {
        ValveShop x = withAll();
        CHECK.due("38: none", x.status(), 0);
        x.kind(5);
        CHECK.due("38: NULL", x.status(), 1);
        x.sheet(0, 2, 11);
        CHECK.due("38: none again", x.status(), 0);
        x.set(0, 11, 0);
        CHECK.due("38: PLACE", x.status(), 2);
        x.as(0, 4);
        CHECK.due("38: KIND", x.status(), 3);
        x.sheet(0, 2, -5);
        CHECK.due("38: SIZE", x.status(), 4);
        x.sheet(1, 1, 3);
        x.copy(0, 0, 1, 0, 1);
        CHECK.due("38: STORE", x.status(), 5);
        x.kind(9);
        x.kind(-9);
        CHECK.due("38: BAD leaves it", x.status(), 5);
        x.misfit(0, 0);
        CHECK.due("38: STATE leaves it", x.status(), 5);
        x.event(0, 0, 0, 0);
        CHECK.due("38: NONE as an answer", x.status(), 0);
        everyCallClearsIt();
    }

    private static void everyCallClearsIt() {
        for (int call = 0; call < 28; call++) {
            ValveShop x = withAll();
            Shops.fill(x, 2, new int[48]);
            Shops.fill(x, 0, Shops.PLAIN);
            Shops.fill(x, 1, 5, 0, 0);
            x.kind(5);
            CHECK.due("38: call " + call + " is answered", answered(x, call) > Check.NONE ? 1 : 0, 1);
            CHECK.due("38: call " + call + " has no FINDING", x.status(), 0);
        }
    }

    private static int answered(ValveShop x, int call) {
        if (call == 20 || call == 21) {
            x.find(0, 6, 1000, 2, 0);
            x.kind(5);
        }
        switch (call) {
            case 0: return x.sheet(3, 2, 1);
            case 1: return x.set(0, 0, 0);
            case 2: return x.copy(0, 0, 0, 1, 1);
            case 3: return x.drop(0);
            case 4: return x.engine(4, 0, 0);
            case 5: return x.adjust(0, 0, 0);
            case 6: return x.sicken(0, 0);
            case 7: return x.twin(4, 0);
            case 8: return x.number(0, 0);
            case 9: return x.piston(0, 0);
            case 10: return x.valve(0, 0, 0);
            case 11: return x.open(0, 0, 0, 0, 0);
            case 12: return x.event(0, 6, 0, 0);
            case 13: return x.valves(0, 0);
            case 14: return x.setting(0, 0);
            case 15: return x.tune(2);
            case 16: return x.card(0, 0, 0, 0, 0, 0);
            case 17: return x.look(0, 0, 0, 0, 0, 0);
            case 18: return x.work(0, 0, 0, 0, 0);
            case 19: return x.find(0, 6, 1000, 2, 0);
            case 20: return x.misfit(0, 0);
            case 21: return x.named(0, 0, 0);
            case 22: return x.whose(2, 0, 0, 0);
            case 23: return x.next(0, 1, 2, 0);
            case 24: return x.run(0, 1000, 900, 1, 0, 1);
            case 25: return x.minute(0, 0, 0);
            case 26: return x.as(0, 0);
            default: return x.ask(0, 0);
        }
    }

    private static void whatLeavesStatus() {
        ValveShop x = withAll();
        Shops.fill(x, 1, 5, 0, 0);
        x.run(0, 1000, 900, 1, 0, 1);
        x.ask(0, 0);
        x.kind(5);
        x.clear(3);
        x.is(0, 0);
        x.plan(0, 0);
        x.stoke(5);
        x.fire(0);
        x.trace(0);
        x.count(0);
        x.count(5);
        CHECK.due("38: calls without a SHEET or a place, clear(), is()", x.status(), 1);
        CHECK.due("38: status() itself", x.status(), 1);
    }
}
