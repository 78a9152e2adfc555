/** Promises 12 to 18. */
public final class ValvesTest {
    private static final Check CHECK = new Check("valves");

    private ValvesTest() {
    }

    public static void main(String[] args) {
        piston();
        pistonOfAllRods();
        valve();
        valveOfAll();
        valveOfSickOnes();
        open();
        event();
        eventBySwings();
        valves();
        setting();
        settingOfAll();
        tune();
        CHECK.end();
    }

    private static void piston() {
        ValveShop x = Shops.plain();
        int[] half = {0, 4, 17, 38, 67, 103, 146, 195, 250, 308, 370, 434, 500,
            565, 629, 691, 750, 804, 853, 896, 933, 961, 982, 995, 1000};
        for (int k = 0; k <= 24; k++) {
            CHECK.due("12: piston(0, " + k + ")", x.piston(0, k), half[k]);
            CHECK.due("12: piston(0, -" + k + ")", x.piston(0, -k), half[k]);
            CHECK.due("12: three turns on", x.piston(0, k + 144), half[k]);
        }
        CHECK.due("12: piston(0, 1000)", x.piston(0, 1000), 250);
        CHECK.due("12: piston(0, -1000)", x.piston(0, -1000), 250);
        x.adjust(0, 0, 4);
        CHECK.due("12: ROD 4", x.piston(0, 6), 177);
        CHECK.due("12: ROD 4", x.piston(0, 12), 562);
        CHECK.due("12: ROD 4", x.piston(0, 42), 177);
        CHECK.due("12: ROD 4, each cut by itself", x.piston(0, 1), 4 + 1);
        x.adjust(0, 0, 20);
        CHECK.due("12: ROD 20", x.piston(0, 12), 512);
        CHECK.due("12: ROD 20, at the end", x.piston(0, 24), 1000);
        CHECK.due("12: status", x.status(), 0);
        CHECK.due("12: k 1001", x.piston(0, 1001), Check.BAD);
        CHECK.due("12: k -1001", x.piston(0, -1001), Check.BAD);
        CHECK.due("12: place 6", x.piston(6, 0), Check.BAD);
        CHECK.due("12: place -1", x.piston(-1, 0), Check.BAD);
        CHECK.due("12: empty", x.piston(1, 0), Check.NULL);
        CHECK.due("12: empty, BAD first", x.piston(1, 1001), Check.BAD);
        CHECK.due("12: status", x.status(), 1);
    }

    /** C by the rule of the document: a quarter of the turn is told. */
    private static int cosine(int k) {
        int[] quarter = {10000, 9914, 9659, 9239, 8660, 7934, 7071, 6088, 5000, 3827, 2588, 1305, 0};
        int place = Math.floorMod(k, 48);
        if (place > 24) {
            place = 48 - place;
        }
        return place <= 12 ? quarter[place] : -quarter[24 - place];
    }

    private static void pistonOfAllRods() {
        for (int rod = 4; rod <= 20; rod++) {
            ValveShop x = Shops.plain();
            x.adjust(0, 0, rod);
            for (int k = -60; k <= 120; k++) {
                int sine = cosine(k - 12);
                CHECK.due("12: ROD " + rod + ", piston(0, " + k + ")", x.piston(0, k),
                    (10000 - cosine(k)) / 20 + sine * sine / (400000 * rod));
            }
        }
    }

    private static void valve() {
        ValveShop x = Shops.with(0, 10, 0, 0, 40, 0, 40, 50, 10, 10, 100);
        CHECK.due("13: S(1) by 1000", x.valve(0, 6, 1), 1);
        CHECK.due("13: cut towards 0", x.valve(0, 6, -1), -1);
        CHECK.due("13: S(12) by 1000", x.valve(0, 6, 12), 10);
        CHECK.due("13: back", x.valve(0, -6, 12), -10);
        CHECK.due("13: in mid gear", x.valve(0, 0, 12), 0);
        CHECK.due("13: round", x.valve(0, 6, 1000), x.valve(0, 6, 40));
        CHECK.due("13: round", x.valve(0, 6, -1000), x.valve(0, 6, 8));
        x.adjust(0, 2, 3);
        CHECK.due("13: S(3)", x.valve(0, 6, 0), 3);
        CHECK.due("13: S(3), in mid gear", x.valve(0, 0, 0), 3);
        CHECK.due("13: S(3), back", x.valve(0, -6, 0), 3);
        CHECK.due("13: S(8)", x.valve(0, 6, 5), 8);
        CHECK.due("13: S(-2)", x.valve(0, -6, 5), -2);
        CHECK.due("13: (6 S(8) + 6 S(-2)) by 12000", x.valve(0, 0, 5), 3);
        x.adjust(0, 3, -20);
        CHECK.due("13: HANG cut by itself", x.valve(0, 1, 0), 3 - 3);
        CHECK.due("13: HANG back", x.valve(0, -1, 0), 3 + 3);
        CHECK.due("13: HANG in NOTCH 6", x.valve(0, 6, 0), 3 - 20);
        CHECK.due("13: HANG in NOTCH 0", x.valve(0, 0, 0), 3);
        x.adjust(0, 3, 5);
        CHECK.due("13: HANG 5 by 6", x.valve(0, 1, 0), 3);
        CHECK.due("13: status", x.status(), 0);
        CHECK.due("13: NOTCH 7", x.valve(0, 7, 0), Check.BAD);
        CHECK.due("13: NOTCH -7", x.valve(0, -7, 0), Check.BAD);
        CHECK.due("13: k 1001", x.valve(0, 0, 1001), Check.BAD);
        CHECK.due("13: k -1001", x.valve(0, 0, -1001), Check.BAD);
        CHECK.due("13: place 6", x.valve(6, 0, 0), Check.BAD);
        CHECK.due("13: empty", x.valve(1, 6, 0), Check.NULL);
        CHECK.due("13: empty, BAD first", x.valve(1, 7, 0), Check.BAD);
        CHECK.due("13: status", x.status(), 1);
    }

    /** Each PLACE of the turn, in each NOTCH, by many throws, so that each cosine tells. */
    private static void valveOfAll() {
        for (int throwOf = 10; throwOf <= 200; throwOf++) {
            for (int notch = -6; notch <= 6; notch++) {
                int advance = (throwOf + notch) % 12;
                int hang = throwOf % 41 - 20;
                ValveShop x = Shops.with(0, throwOf, advance, hang, 40, 0, 40, 50, 10, 10, 100);
                for (int k = 0; k < 48; k++) {
                    int sines = (6 + notch) * cosine(k + advance - 12) + (6 - notch) * cosine(advance - k - 12);
                    CHECK.due("13: THROW " + throwOf + ", NOTCH " + notch + ", PLACE " + k, x.valve(0, notch, k),
                        throwOf * sines / 120000 + hang * notch / 6);
                }
            }
        }
    }

    private static void valveOfSickOnes() {
        ValveShop x = Shops.with(0, 10, 3, 0, 40, 0, 40, 50, 10, 10, 100);
        int[] late = {0, -1, -2, -3, 1, 2, 3, 0, 0, 0, 0, 0, 0};
        int[] sines = {0, 1, 2, 3, 5, 6, 7};
        for (int sickness = 0; sickness <= 12; sickness++) {
            x.sicken(0, sickness);
            CHECK.due("13: SICKNESS " + sickness, x.valve(0, 6, 0), sines[3 + late[sickness]]);
            CHECK.due("13: LATE is nothing back", x.valve(0, -6, 0), 3);
        }
    }

    private static void open() {
        ValveShop x = Shops.plain();
        // in NOTCH 6 V is 100 at PLACE 10, -100 at 34, 0 at 22 and 46
        int[][] due = {
            // end, k, STEAM, EXHAUST
            {0, 10, 40, 0}, {1, 10, 0, 40}, {0, 34, 0, 40}, {1, 34, 40, 0}, {0, 22, 0, 0}, {1, 46, 0, 0},
            {0, 2, 10, 0}, {1, 2, 0, 40}, {0, 26, 0, 40}, {1, 26, 10, 0}, {0, 23, 0, 13}, {1, 47, 0, 13}};
        for (int[] row : due) {
            CHECK.due("14: STEAM at " + row[1], x.open(0, 6, row[0], row[1], 0), row[2]);
            CHECK.due("14: EXHAUST at " + row[1], x.open(0, 6, row[0], row[1], 1), row[3]);
            CHECK.due("14: round", x.open(0, 6, row[0], row[1] - 480, 1), row[3]);
        }
        x.adjust(0, 5, -20);
        CHECK.due("14: INLAP below 0", x.open(0, 6, 0, 22, 1), 20);
        CHECK.due("14: INLAP below 0", x.open(0, 6, 1, 22, 1), 20);
        x.adjust(0, 5, 50);
        CHECK.due("14: INLAP 50", x.open(0, 6, 0, 34, 1), 40);
        CHECK.due("14: INLAP 50", x.open(0, 6, 0, 29, 1), 79 - 50);
        CHECK.due("14: INLAP 50", x.open(0, 6, 0, 28, 1), 70 - 50);
        x.adjust(0, 6, 7);
        CHECK.due("14: PORT 7", x.open(0, 6, 0, 2, 0), 7);
        CHECK.due("14: status", x.status(), 0);
        CHECK.due("14: place 6", x.open(6, 0, 0, 0, 0), Check.BAD);
        CHECK.due("14: NOTCH 7", x.open(0, 7, 0, 0, 0), Check.BAD);
        CHECK.due("14: END 2", x.open(0, 0, 2, 0, 0), Check.BAD);
        CHECK.due("14: END -1", x.open(0, 0, -1, 0, 0), Check.BAD);
        CHECK.due("14: k 1001", x.open(0, 0, 0, 1001, 0), Check.BAD);
        CHECK.due("14: k -1000", x.open(0, 0, 0, -1000, 0), 0);
        CHECK.due("14: what 2", x.open(0, 0, 0, 0, 2), Check.BAD);
        CHECK.due("14: what -1", x.open(0, 0, 0, 0, -1), Check.BAD);
        CHECK.due("14: empty", x.open(1, 0, 0, 0, 0), Check.NULL);
        CHECK.due("14: empty, BAD first", x.open(1, 0, 0, 0, 2), Check.BAD);
        CHECK.due("14: status", x.status(), 1);
    }

    private static void event() {
        ValveShop x = Shops.plain();
        int[][] due = {{2, 19, 23, 46}, {26, 43, 47, 22}};
        for (int end = 0; end < 2; end++) {
            for (int what = 0; what < 4; what++) {
                CHECK.due("15: event", x.event(0, 6, end, what), due[end][what]);
            }
        }
        CHECK.due("15: none in mid gear", x.event(0, 0, 0, 0), Check.NONE);
        CHECK.due("15: none in mid gear", x.event(0, 0, 0, 1), Check.NONE);
        CHECK.due("15: NONE is no FINDING", x.status(), 0);
        // with ADVANCE 0 V is 0 at PLACE 0, more than 0 from 1 to 23, 0 at 24
        x.adjust(0, 2, 0);
        x.adjust(0, 4, 0);
        CHECK.due("15: ADMITS at 1", x.event(0, 6, 0, 0), 1);
        CHECK.due("15: CUTS at 24", x.event(0, 6, 0, 1), 24);
        CHECK.due("15: of END 1, CUTS at 0", x.event(0, 6, 1, 1), 0);
        CHECK.due("15: of END 1, SHUTS at 24", x.event(0, 6, 1, 3), 24);
        x.adjust(0, 5, -20);
        x.adjust(0, 1, 10);
        CHECK.due("15: always open", x.event(0, 6, 0, 2), Check.NONE);
        CHECK.due("15: always open", x.event(0, 6, 0, 3), Check.NONE);
        CHECK.due("15: place 6", x.event(6, 0, 0, 0), Check.BAD);
        CHECK.due("15: NOTCH -7", x.event(0, -7, 0, 0), Check.BAD);
        CHECK.due("15: END 2", x.event(0, 0, 2, 0), Check.BAD);
        CHECK.due("15: what 4", x.event(0, 0, 0, 4), Check.BAD);
        CHECK.due("15: what -1", x.event(0, 0, 0, -1), Check.BAD);
        CHECK.due("15: empty", x.event(1, 0, 0, 0), Check.NULL);
        CHECK.due("15: status", x.status(), 1);
    }

    /** By what open() tells, PLACE by PLACE. */
    private static void eventBySwings() {
        int[][] engines = {{0, 150, 7, 9, 20, -3, 40, 50, 10, 10, 100}, {0, 100, 5, 15, 30, 4, 1, 50, 10, 10, 100},
            {0, 100, 0, -20, 20, 20, 40, 50, 10, 10, 100}, {0, 60, 11, 20, 41, 11, 40, 50, 10, 10, 100}};
        for (int[] engine : engines) {
            for (int notch = -6; notch <= 6; notch++) {
                for (int end = 0; end < 2; end++) {
                    eventsOf(Shops.with(engine), notch, end);
                }
            }
        }
    }

    private static void eventsOf(ValveShop x, int notch, int end) {
        for (int what = 0; what < 4; what++) {
            int first = Check.NONE;
            for (int k = 47; k >= 0; k--) {
                boolean was = x.open(0, notch, end, k - 1, what / 2) > 0;
                boolean now = x.open(0, notch, end, k, what / 2) > 0;
                if (what % 2 == 0 ? now && !was : was && !now) {
                    first = k;
                }
            }
            CHECK.due("15: event " + what + " of END " + end + " in NOTCH " + notch, x.event(0, notch, end, what), first);
        }
    }

    private static void valves() {
        ValveShop x = Shops.plain();
        CHECK.due("16: UNLIKE", x.valves(0, 0), 24);
        x.adjust(0, 3, 10);
        int sum = 0;
        for (int notch = 1; notch <= 6; notch++) {
            int head = x.event(0, notch, 0, 1);
            int other = x.event(0, notch, 1, 1);
            int round = ((other - head - 24) % 48 + 48) % 48;
            sum += head == Check.NONE || other == Check.NONE ? 24 : Math.min(round, 48 - round);
        }
        CHECK.due("16: UNLIKE with HANG 10", x.valves(0, 0), sum);
        CHECK.due("16: LEAD", x.valves(0, 1), 0);
        x.adjust(0, 4, 0);
        CHECK.due("16: LEAD with HANG 10", x.valves(0, 1), 35);
        x.adjust(0, 3, 20);
        CHECK.due("16: LEAD by PORT", x.valves(0, 1), 40);
        x.sicken(0, 1);
        CHECK.due("16: LEAD of a SICK one", x.valves(0, 1), 33);
        x.sicken(0, 0);
        x.adjust(0, 4, 100);
        x.adjust(0, 3, 0);
        CHECK.due("16: neither CUTS", x.valves(0, 0), 144);
        x.adjust(0, 4, 96);
        x.adjust(0, 3, -20);
        CHECK.due("16: one has none", x.event(0, 6, 0, 1), Check.NONE);
        CHECK.due("16: the other has one", x.event(0, 6, 1, 1) == Check.NONE ? 1 : 0, 0);
        CHECK.due("16: one has none", x.valves(0, 0), 144);
        CHECK.due("16: status", x.status(), 0);
        CHECK.due("16: what 2", x.valves(0, 2), Check.BAD);
        CHECK.due("16: what -1", x.valves(0, -1), Check.BAD);
        CHECK.due("16: place 6", x.valves(6, 0), Check.BAD);
        CHECK.due("16: place -1", x.valves(-1, 0), Check.BAD);
        CHECK.due("16: empty", x.valves(1, 0), Check.NULL);
        CHECK.due("16: status", x.status(), 1);
    }

    private static void setting() {
        ValveShop x = Shops.plain();
        CHECK.due("17: ADVANCE", x.setting(0, 0), 3);
        CHECK.due("17: HANG", x.setting(0, 1), -1);
        CHECK.due("17: how UNLIKE", x.setting(0, 2), 0);
        CHECK.due("17: nothing changes", x.number(0, 2), 2);
        CHECK.due("17: nothing changes", x.number(0, 3), 0);
        CHECK.due("17: nothing changes", x.valves(0, 0), 24);
        CHECK.due("17: status", x.status(), 0);
        CHECK.due("17: what 3", x.setting(0, 3), Check.BAD);
        CHECK.due("17: what -1", x.setting(0, -1), Check.BAD);
        CHECK.due("17: place 6", x.setting(6, 0), Check.BAD);
        CHECK.due("17: empty", x.setting(1, 0), Check.NULL);
        CHECK.due("17: status", x.status(), 1);
        ValveShop far = Shops.with(0, 88, 7, -11, 80, 48, 16, 57, 53, 49, 306);
        far.sicken(0, 3);
        CHECK.due("17: the greatest ADVANCE", far.setting(0, 0), 11);
        CHECK.due("17: the greatest ADVANCE", far.setting(0, 1), 0);
        CHECK.due("17: the greatest ADVANCE", far.setting(0, 2), 0);
        far.kind(3);
        far.setting(0, 2);
        CHECK.due("17: status", far.status(), 0);
        ValveShop shut = Shops.with(Shops.SHUT);
        CHECK.due("17: of several the least ADVANCE", shut.setting(0, 0), 0);
        CHECK.due("17: of several the least HANG", shut.setting(0, 1), -20);
        CHECK.due("17: all are alike", shut.setting(0, 2), 144);
    }

    /** By all that adjust() and valves() tell. */
    private static void settingOfAll() {
        int[] numbers = {0, 60, 5, 3, 33, 0, 20, 50, 10, 10, 100};
        int least = 145;
        int bestAdvance = -1;
        int bestHang = -1;
        for (int advance = 0; advance <= 11; advance++) {
            ValveShop x = Shops.with(numbers);
            x.sicken(0, 5);
            x.adjust(0, 2, advance);
            for (int hang = -20; hang <= 20; hang++) {
                x.adjust(0, 3, hang);
                int unlike = x.valves(0, 0);
                if (unlike < least) {
                    least = unlike;
                    bestAdvance = advance;
                    bestHang = hang;
                }
            }
        }
        ValveShop x = Shops.with(numbers);
        x.sicken(0, 5);
        CHECK.due("17: ADVANCE of all", x.setting(0, 0), bestAdvance);
        CHECK.due("17: HANG of all", x.setting(0, 1), bestHang);
        CHECK.due("17: least of all", x.setting(0, 2), least);
    }

    private static void tune() {
        ValveShop x = Shops.plain();
        CHECK.due("18: how UNLIKE it was", x.tune(0), 24);
        CHECK.due("18: ADVANCE", x.number(0, 2), 3);
        CHECK.due("18: HANG", x.number(0, 3), -1);
        CHECK.due("18: all else stays", x.number(0, 1), 100);
        CHECK.due("18: once more", x.tune(0), 0);
        CHECK.due("18: status", x.status(), 0);
        x.sicken(0, 6);
        int unlike = x.valves(0, 0);
        int advance = x.setting(0, 0);
        int hang = x.setting(0, 1);
        int least = x.setting(0, 2);
        CHECK.due("18: of a SICK one", x.tune(0), unlike);
        CHECK.due("18: its ADVANCE", x.number(0, 2), advance);
        CHECK.due("18: its HANG", x.number(0, 3), hang);
        CHECK.due("18: it is SICK yet", x.number(0, 11), 6);
        CHECK.due("18: by it", x.valves(0, 0), least);
        CHECK.due("18: place 6", x.tune(6), Check.BAD);
        CHECK.due("18: place -1", x.tune(-1), Check.BAD);
        CHECK.due("18: empty", x.tune(1), Check.NULL);
        CHECK.due("18: status", x.status(), 1);
    }
}
