/** Where two refusals fit one call, the first one is the answer, as each promise tells their order. */
public final class OrderTest {
    private static final Check CHECK = new Check("order");
    private static final int NOT_THERE = Full.MISSING, EMPTY = Full.EMPTY;

    private OrderTest() {
    }

    public static void main(String[] args) {
        codes();
        sheets();
        engines();
        foundCards();
        runs();
        asked();
        full();
        CHECK.end();
    }

    private static void first(String words, int due, String call, int... args) {
        CHECK.sentence(words, () -> {
            ValveShop x = Full.shop();
            CHECK.due(Talk.told(call, args), Talk.ask(x, call, args), due);
            CHECK.due(Talk.told(call, args) + ", then status()", x.status(), due <= Check.NULL ? -1000010 - due : Full.STATUS);
        });
    }

    private static void codes() {
        CHECK.sentence("Terms: FINDINGS are -1000010 less 1 NULL, 2 PLACE, 3 KIND, 4 SIZE, 5 STORE", () -> {
            ValveShop x = Full.shop();
            CHECK.due("NULL", x.kind(EMPTY), -1000011);
            CHECK.due("status", x.status(), 1);
            CHECK.due("PLACE", x.set(0, 60, 0), -1000012);
            CHECK.due("status", x.status(), 2);
            CHECK.due("KIND", x.as(0, 3), -1000013);
            CHECK.due("status", x.status(), 3);
            CHECK.due("SIZE", x.sheet(0, 0, -1), -1000014);
            CHECK.due("status", x.status(), 4);
            CHECK.due("STORE", x.copy(0, 0, 1, 0, 1), -1000015);
            CHECK.due("status", x.status(), 5);
            CHECK.due("BAD", x.kind(6), -1000001);
            CHECK.due("STATE", x.misfit(1, 0), -1000002);
            CHECK.due("NONE", x.trace(5), -1000000);
            CHECK.due("status", x.status(), 5);
        });
    }

    private static void sheets() {
        first("2: BAD (SHEET) ahead of SIZE", Check.BAD, "sheet", 8, 0, -1);
        first("2: BAD (LANE) ahead of SIZE", Check.BAD, "sheet", 0, 3, -1);
        first("3: BAD ahead of PLACE", Check.BAD, "set", 8, -1, 0);
        first("3: NULL ahead of PLACE", Check.NULL, "set", NOT_THERE, -1, 0);
        first("4: BAD (b) ahead of NULL (a)", Check.BAD, "copy", NOT_THERE, 0, 8, 0, 0);
        first("4: BAD (a) ahead of NULL (b)", Check.BAD, "copy", -1, 0, NOT_THERE, 0, 0);
        first("4: BAD ahead of STORE", Check.BAD, "copy", Full.OF_SHORTS, 0, -1, 0, 0);
        first("4: BAD ahead of PLACE", Check.BAD, "copy", 0, 61, 8, -1, -1);
        first("4: NULL (a) ahead of PLACE", Check.NULL, "copy", NOT_THERE, -1, 0, -1, -1);
        first("4: NULL (b) ahead of PLACE", Check.NULL, "copy", 0, 61, NOT_THERE, 0, 0);
        first("4: NULL (a) ahead of STORE", Check.NULL, "copy", NOT_THERE, 0, Full.OF_SHORTS, 0, 1);
        first("4: NULL (b) ahead of STORE", Check.NULL, "copy", Full.OF_BYTES, 0, 6, 0, 1);
        first("4: STORE ahead of PLACE (n below 0)", Check.STORE, "copy", 0, 0, Full.OF_SHORTS, 0, -1);
        first("4: STORE ahead of PLACE (i below 0)", Check.STORE, "copy", 0, -1, Full.OF_SHORTS, 0, 1);
        first("4: STORE ahead of PLACE (j below 0)", Check.STORE, "copy", 0, 0, Full.OF_SHORTS, -1, 1);
        first("4: STORE ahead of PLACE (beyond a)", Check.STORE, "copy", Full.OF_SHORTS, 11, 0, 0, 2);
        first("4: STORE ahead of PLACE (beyond b)", Check.STORE, "copy", 0, 0, Full.OF_BYTES, 4, 2);
    }

    private static void engines() {
        first("6: BAD (place) ahead of NULL", Check.BAD, "engine", 6, NOT_THERE, 0);
        first("6: BAD (place) ahead of PLACE", Check.BAD, "engine", -1, 0, 60);
        first("6: BAD (SHEET) ahead of PLACE", Check.BAD, "engine", 0, 8, -1);
        first("6: NULL ahead of PLACE", Check.NULL, "engine", 0, NOT_THERE, -1);
        first("6: PLACE ahead of BAD (a NUMBER)", Check.PLACE, "engine", 0, 0, 50);
        first("6: PLACE ahead of BAD (a NUMBER)", Check.PLACE, "engine", 0, Full.OF_SHORTS, 2);
        first("7: BAD (v) ahead of NULL", Check.BAD, "adjust", EMPTY, 1, 9);
        first("7: BAD (which) ahead of NULL", Check.BAD, "adjust", EMPTY, 11, 10);
        first("8: BAD ahead of NULL", Check.BAD, "sicken", EMPTY, 13);
        first("9: BAD (to) ahead of NULL", Check.BAD, "twin", 6, EMPTY);
        first("11: BAD ahead of NULL", Check.BAD, "number", EMPTY, 12);
        first("12: BAD ahead of NULL", Check.BAD, "piston", EMPTY, 1001);
        first("13: BAD (NOTCH) ahead of NULL", Check.BAD, "valve", EMPTY, 7, 0);
        first("13: BAD (k) ahead of NULL", Check.BAD, "valve", EMPTY, 0, -1001);
        first("14: BAD (what) ahead of NULL", Check.BAD, "open", EMPTY, 0, 0, 0, 2);
        first("15: BAD (what) ahead of NULL", Check.BAD, "event", EMPTY, 0, 0, 4);
        first("16: BAD ahead of NULL", Check.BAD, "valves", EMPTY, 2);
        first("17: BAD ahead of NULL", Check.BAD, "setting", EMPTY, 3);
        first("19: BAD (k) ahead of NULL", Check.BAD, "card", EMPTY, 0, 0, 0, 0, 48);
        first("20: BAD (what) ahead of NULL", Check.BAD, "look", EMPTY, 0, 0, 0, 0, 3);
        first("21: BAD (what) ahead of NULL", Check.BAD, "work", EMPTY, 0, 0, 0, 2);
    }

    private static void foundCards() {
        first("22: BAD (NOTCH) ahead of NULL (the place)", Check.BAD, "find", EMPTY, 7, 0, 0, 0);
        first("22: BAD (SHEET) ahead of NULL (the place)", Check.BAD, "find", EMPTY, 0, 0, 8, 0);
        first("22: BAD (BOILER) ahead of NULL (the SHEET)", Check.BAD, "find", 0, 0, -1, NOT_THERE, 0);
        first("22: BAD (BOILER) ahead of PLACE", Check.BAD, "find", 0, 0, 2001, 0, 13);
        first("22: NULL (the place) ahead of PLACE", Check.NULL, "find", EMPTY, 0, 0, 0, 13);
        first("22: NULL (the SHEET) ahead of PLACE", Check.NULL, "find", 0, 0, 0, NOT_THERE, -1);
        first("22: NULL (the place) ahead of BAD (an ITEM)", Check.NULL, "find", EMPTY, 0, 0, 0, 12);
        first("22: PLACE ahead of BAD (an ITEM)", Check.PLACE, "find", 0, 0, 0, 0, 13);
        first("23: BAD ahead of STATE", Check.BAD, "misfit", 1, 13);
        first("23: STATE where there is no ENGINE", Check.STATE, "misfit", EMPTY, 0);
        first("24: BAD (what) ahead of STATE", Check.BAD, "named", 1, 3, 0);
        first("24: BAD (the number) ahead of STATE", Check.BAD, "named", 1, 2, -1);
        first("24: BAD (the number) ahead of STATE", Check.BAD, "named", EMPTY, 2, 100001);
        first("24: STATE where there is no ENGINE", Check.STATE, "named", EMPTY, 2, 0);
        first("24: of 0 the number is not looked at", Check.STATE, "named", 1, 0, -1);
        first("24: of 1 the number is not looked at", Check.STATE, "named", 1, 1, 100001);
        first("25: BAD (BOILER) ahead of NULL", Check.BAD, "whose", NOT_THERE, 0, 2001, 0);
        first("25: BAD (what) ahead of PLACE", Check.BAD, "whose", 0, 13, 0, 3);
        first("25: NULL ahead of PLACE", Check.NULL, "whose", NOT_THERE, -1, 0, 0);
        first("25: PLACE ahead of BAD (an ITEM)", Check.PLACE, "whose", 0, 13, 0, 0);
        whoseOfNone();
        first("26: BAD (alike) ahead of NULL", Check.BAD, "next", EMPTY, 3, 3, 0);
        first("26: BAD (BOILER) ahead of NULL", Check.BAD, "next", EMPTY, 3, 4, 2001);
    }

    private static void whoseOfNone() {
        int[][] due = {
            // SHEET, i, BOILER, what
            {8, 0, 0, 0, Check.BAD}, {0, 0, 0, 3, Check.BAD}, {NOT_THERE, 0, 0, 0, Check.NULL}, {0, 13, 0, 0, Check.PLACE},
            {0, 12, 0, 0, Check.BAD}, {0, 0, 0, 0, Check.NONE}, {0, 0, 0, 2, Check.NONE}};
        for (int[] a : due) {
            CHECK.sentence("25: BAD, NULL, PLACE, BAD (an ITEM), each ahead of NONE: THE SHELF is empty", () -> {
                ValveShop x = Full.shop();
                for (int place = 0; place < 6; place++) {
                    x.clear(place);
                }
                CHECK.due(Talk.told("whose", a), x.whose(a[0], a[1], a[2], a[3]), a[4]);
            });
        }
    }

    private static void runs() {
        first("27: BAD (n) ahead of NULL (the place)", Check.BAD, "run", EMPTY, 0, 0, 0, 0, 0);
        first("27: BAD (minutes) ahead of NULL (the SHEET)", Check.BAD, "run", 0, 0, 1001, NOT_THERE, 0, 1);
        first("27: BAD (n) ahead of PLACE", Check.BAD, "run", 0, 0, 0, 0, 50, 11);
        first("27: NULL (the place) ahead of PLACE", Check.NULL, "run", EMPTY, 0, 0, 0, -1, 1);
        first("27: NULL (the SHEET) ahead of PLACE", Check.NULL, "run", 0, 0, 0, NOT_THERE, -1, 1);
        first("27: NULL (the place) ahead of BAD (an ITEM)", Check.NULL, "run", EMPTY, 0, 0, 0, 1, 1);
        first("27: PLACE ahead of BAD (an ITEM)", Check.PLACE, "run", 0, 0, 0, 0, 31, 10);
        CHECK.sentence("27: BAD (an ITEM) ahead of NONE", () -> {
            ValveShop x = Full.shop();
            CHECK.due("run in no minutes", x.run(0, 1000, 0, 0, 1, 1), Check.BAD);
            CHECK.due("status", x.status(), Full.STATUS);
            CHECK.due("run in no minutes", x.run(0, 1000, 0, 0, 0, 1), Check.NONE);
            CHECK.due("status", x.status(), 0);
        });
        CHECK.sentence("28: BAD ahead of STATE, STATE ahead of NONE", () -> {
            ValveShop x = new ValveShop();
            CHECK.due("plan(0, 4)", x.plan(0, 4), Check.BAD);
            CHECK.due("plan(0, -1)", x.plan(0, -1), Check.BAD);
            CHECK.due("plan(-1, 0)", x.plan(-1, 0), Check.STATE);
            CHECK.due("plan(10, 3)", x.plan(10, 3), Check.STATE);
        });
        first("28: BAD ahead of NONE (i below 0)", Check.BAD, "plan", -1, 4);
        first("28: BAD ahead of NONE (not so many)", Check.BAD, "plan", 2, -1);
        first("30: BAD (NOTCH) ahead of NULL", Check.BAD, "minute", EMPTY, 7, 0);
        first("30: BAD (REGULATOR) ahead of NULL", Check.BAD, "minute", EMPTY, 0, 5);
    }

    private static void asked() {
        first("33: BAD (place) ahead of 0", Check.BAD, "is", 6, 0);
        first("33: BAD (KIND) ahead of 0", Check.BAD, "is", EMPTY, 5);
        nothing();
        first("34: BAD (KIND) ahead of NULL", Check.BAD, "as", EMPTY, 5);
        first("34: NULL ahead of KIND", Check.NULL, "as", EMPTY, 4);
        first("35: BAD ahead of NULL", Check.BAD, "ask", EMPTY, 2);
    }

    private static void nothing() {
        CHECK.sentence("33: of nothing 0, whatever the KIND", () -> {
            ValveShop x = Full.shop();
            for (int kind = 0; kind < 5; kind++) {
                CHECK.due("is(EMPTY, " + kind + ")", x.is(EMPTY, kind), 0);
            }
            CHECK.due("status", x.status(), Full.STATUS);
        });
    }

    private static void full() {
        CHECK.sentence("29: BAD ahead of FULL", () -> {
            ValveShop x = new ValveShop();
            for (int i = 0; i < 10; i++) {
                CHECK.due("stoke(1000)", x.stoke(1000), 1000 * (i + 1));
            }
            CHECK.due("stoke(1001)", x.stoke(1001), Check.BAD);
            CHECK.due("stoke(0)", x.stoke(0), Check.BAD);
            CHECK.due("stoke(-1)", x.stoke(-1), Check.BAD);
            CHECK.due("stoke(1)", x.stoke(1), Check.FULL);
            CHECK.due("stoke(1000)", x.stoke(1000), Check.FULL);
        });
    }
}
