/** Promises 6 to 11. */
public final class EnginesTest {
    private static final Check CHECK = new Check("engines");
    private static final int[] LEAST = {4, 10, 0, -20, 0, -20, 1, 20, 1, 1, 0};
    private static final int[] MOST = {20, 200, 11, 20, 100, 50, 100, 200, 100, 100, 500};

    private EnginesTest() {
    }

    public static void main(String[] args) {
        engine();
        engineRefused();
        adjust();
        sicken();
        twin();
        clear();
        number();
        CHECK.end();
    }

    private static void engine() {
        ValveShop x = new ValveShop();
        x.sheet(1, 1, 24);
        for (int i = 0; i < 11; i++) {
            x.set(1, i + 3, MOST[i]);
        }
        CHECK.due("6: engine(5, 1, 3)", x.engine(5, 1, 3), 1);
        CHECK.due("6: status", x.status(), 0);
        for (int i = 0; i < 11; i++) {
            CHECK.due("6: number(5, " + i + ")", x.number(5, i), MOST[i]);
        }
        x.set(1, 3, 10);
        CHECK.due("6: the ENGINE has numbers of its own", x.number(5, 0), 20);
        x.sicken(5, 4);
        CHECK.due("6: in place of it", x.engine(5, 1, 3), 1);
        CHECK.due("6: without a SICKNESS", x.number(5, 11), 0);
        for (int i = 0; i < 11; i++) {
            x.set(1, i + 13, LEAST[i]);
        }
        CHECK.due("6: the last ITEMS", x.engine(0, 1, 13), 1);
        CHECK.due("6: the last ITEM", x.number(0, 10), 0);
        x.set(1, 13, 0);
        CHECK.due("6: without a ROD", x.engine(0, 1, 13), 1);
        CHECK.due("6: without a ROD", x.number(0, 0), 0);
        CHECK.due("6: count(1)", x.count(1), 2);
    }

    private static void engineRefused() {
        ValveShop x = new ValveShop();
        CHECK.due("6: engine(6, 0, 0)", x.engine(6, 0, 0), Check.BAD);
        CHECK.due("6: engine(-1, 0, 0)", x.engine(-1, 0, 0), Check.BAD);
        CHECK.due("6: engine(0, 8, 0)", x.engine(0, 8, 0), Check.BAD);
        CHECK.due("6: engine(0, -1, 0)", x.engine(0, -1, 0), Check.BAD);
        CHECK.due("6: engine(0, 0, 99)", x.engine(0, 0, 99), Check.NULL);
        x.sheet(0, 2, 12);
        CHECK.due("6: engine(0, 0, 2)", x.engine(0, 0, 2), Check.PLACE);
        CHECK.due("6: engine(0, 0, -1)", x.engine(0, 0, -1), Check.PLACE);
        CHECK.due("6: engine(0, 0, MAX)", x.engine(0, 0, Integer.MAX_VALUE), Check.PLACE);
        CHECK.due("6: status", x.status(), 2);
        for (int which = 0; which < 11; which++) {
            Shops.fill(x, 0, Shops.PLAIN);
            x.set(0, which, which == 0 ? 3 : LEAST[which] - 1);
            CHECK.due("6: too little of " + which, x.engine(0, 0, 0), Check.BAD);
            x.set(0, which, MOST[which] + 1);
            CHECK.due("6: too much of " + which, x.engine(0, 0, 0), Check.BAD);
        }
        Shops.fill(x, 0, Shops.PLAIN);
        x.set(0, 0, -1);
        CHECK.due("6: ROD -1", x.engine(0, 0, 0), Check.BAD);
        CHECK.due("6: nothing came", x.count(1), 0);
        x.drop(1);
        x.engine(0, 0, 0);
        CHECK.due("6: BAD leaves status", x.status(), 1);
    }

    private static void adjust() {
        ValveShop x = Shops.plain();
        for (int which = 0; which < 11; which++) {
            CHECK.due("7: least", x.adjust(0, which, LEAST[which]), Shops.PLAIN[which]);
            CHECK.due("7: least", x.number(0, which), LEAST[which]);
            CHECK.due("7: most", x.adjust(0, which, MOST[which]), LEAST[which]);
            CHECK.due("7: less", x.adjust(0, which, which == 0 ? 3 : LEAST[which] - 1), Check.BAD);
            CHECK.due("7: more", x.adjust(0, which, MOST[which] + 1), Check.BAD);
            CHECK.due("7: stays", x.number(0, which), MOST[which]);
        }
        CHECK.due("7: no ROD", x.adjust(0, 0, 0), 20);
        CHECK.due("7: ROD -1", x.adjust(0, 0, -1), Check.BAD);
        CHECK.due("7: ROD 1", x.adjust(0, 0, 1), Check.BAD);
        CHECK.due("7: ROD 4", x.adjust(0, 0, 4), 0);
        CHECK.due("7: status", x.status(), 0);
        CHECK.due("7: adjust(1, 0, 0)", x.adjust(1, 0, 0), Check.NULL);
        CHECK.due("7: status", x.status(), 1);
        CHECK.due("7: BAD first", x.adjust(1, 0, 1), Check.BAD);
        CHECK.due("7: which 11", x.adjust(0, 11, 1), Check.BAD);
        CHECK.due("7: which -1", x.adjust(0, -1, 1), Check.BAD);
        CHECK.due("7: place 6", x.adjust(6, 0, 0), Check.BAD);
        CHECK.due("7: place -1", x.adjust(-1, 0, 0), Check.BAD);
        CHECK.due("7: BAD leaves status", x.status(), 1);
    }

    private static void sicken() {
        ValveShop x = Shops.plain();
        CHECK.due("8: sicken(0, 12)", x.sicken(0, 12), 0);
        CHECK.due("8: sicken(0, 1)", x.sicken(0, 1), 12);
        CHECK.due("8: number(0, 11)", x.number(0, 11), 1);
        CHECK.due("8: sicken(0, 0)", x.sicken(0, 0), 1);
        CHECK.due("8: sicken(0, 13)", x.sicken(0, 13), Check.BAD);
        CHECK.due("8: sicken(0, -1)", x.sicken(0, -1), Check.BAD);
        CHECK.due("8: sicken(6, 0)", x.sicken(6, 0), Check.BAD);
        CHECK.due("8: status", x.status(), 0);
        CHECK.due("8: sicken(1, 1)", x.sicken(1, 1), Check.NULL);
        CHECK.due("8: sicken(1, 13)", x.sicken(1, 13), Check.BAD);
        CHECK.due("8: status", x.status(), 1);
        CHECK.due("8: number(0, 11)", x.number(0, 11), 0);
    }

    private static void twin() {
        ValveShop x = Shops.plain();
        x.sicken(0, 7);
        CHECK.due("9: twin(3, 0)", x.twin(3, 0), 1);
        for (int which = 0; which < 11; which++) {
            CHECK.due("9: number(3, " + which + ")", x.number(3, which), Shops.PLAIN[which]);
        }
        CHECK.due("9: its SICKNESS, too", x.number(3, 11), 7);
        x.adjust(3, 1, 50);
        x.sicken(3, 2);
        CHECK.due("9: two ENGINES", x.number(0, 1), 100);
        CHECK.due("9: two ENGINES", x.number(0, 11), 7);
        CHECK.due("9: in place of one", x.twin(0, 3), 1);
        CHECK.due("9: in place of one", x.number(0, 1), 50);
        CHECK.due("9: of itself", x.twin(0, 0), 1);
        CHECK.due("9: of itself", x.number(0, 11), 2);
        CHECK.due("9: twin(6, 0)", x.twin(6, 0), Check.BAD);
        CHECK.due("9: twin(0, 6)", x.twin(0, 6), Check.BAD);
        CHECK.due("9: twin(-1, 4)", x.twin(-1, 4), Check.BAD);
        CHECK.due("9: twin(0, 4)", x.twin(0, 4), Check.NULL);
        CHECK.due("9: status", x.status(), 1);
        CHECK.due("9: it stays", x.number(0, 1), 50);
        CHECK.due("9: twin(4, 4)", x.twin(4, 4), Check.NULL);
    }

    private static void clear() {
        ValveShop x = Shops.plain();
        x.drop(0);
        CHECK.due("10: clear(0)", x.clear(0), 1);
        CHECK.due("10: number(0, 0)", x.number(0, 0), Check.NULL);
        CHECK.due("10: clear(0)", x.clear(0), 0);
        CHECK.due("10: clear(6)", x.clear(6), Check.BAD);
        CHECK.due("10: clear(-1)", x.clear(-1), Check.BAD);
        CHECK.due("10: count(1)", x.count(1), 0);
        CHECK.due("10: it leaves status", x.status(), 1);
        Shops.put(x, 0, Shops.PLAIN);
        CHECK.due("10: status", x.status(), 0);
        x.kind(2);
        x.clear(0);
        CHECK.due("10: it leaves status", x.status(), 1);
    }

    private static void number() {
        ValveShop x = Shops.with(4, 10, 0, -20, 0, -20, 1, 20, 1, 1, 0);
        for (int which = 0; which < 11; which++) {
            CHECK.due("11: number(0, " + which + ")", x.number(0, which), LEAST[which]);
        }
        CHECK.due("11: status", x.status(), 0);
        CHECK.due("11: number(0, 11)", x.number(0, 11), 0);
        CHECK.due("11: number(0, 12)", x.number(0, 12), Check.BAD);
        CHECK.due("11: number(0, -1)", x.number(0, -1), Check.BAD);
        CHECK.due("11: number(-1, 0)", x.number(-1, 0), Check.BAD);
        CHECK.due("11: number(6, 0)", x.number(6, 0), Check.BAD);
        CHECK.due("11: number(5, 0)", x.number(5, 0), Check.NULL);
        CHECK.due("11: number(5, 12)", x.number(5, 12), Check.BAD);
        CHECK.due("11: status", x.status(), 1);
    }
}
