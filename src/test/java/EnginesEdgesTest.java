/** Promises 6 to 11: each sentence that names an edge. */
public final class EnginesEdgesTest {
    private static final Check CHECK = new Check("edges of engines");
    private static final int MIN = Integer.MIN_VALUE, MAX = Integer.MAX_VALUE;
    private static final String[] NAMES = {"ROD", "THROW", "ADVANCE", "HANG", "LAP", "INLAP", "PORT", "CLEAR", "CHOKE", "DRAIN", "AIR"};
    private static final int[] LEAST = {0, 10, 0, -20, 0, -20, 1, 20, 1, 1, 0};
    private static final int[] MOST = {20, 200, 11, 20, 100, 50, 100, 200, 100, 100, 500};

    private EnginesEdgesTest() {
    }

    public static void main(String[] args) {
        for (int which = 0; which < 11; which++) {
            int number = which;
            CHECK.sentence("6: NUMBER " + which + ", " + NAMES[which] + ", is " + LEAST[which] + " to " + MOST[which],
                () -> numberOfEngine(number));
            CHECK.sentence("7: NUMBER " + which + ", " + NAMES[which] + ", is " + LEAST[which] + " to " + MOST[which],
                () -> numberOfAdjust(number));
        }
        CHECK.sentence("6: ROD: 0, or 4 to 20", EnginesEdgesTest::rodOfEngine);
        CHECK.sentence("6: 11 NUMBERS, ITEMS from i on, to the end of a SHEET: PLACE", EnginesEdgesTest::placesOfEngine);
        CHECK.sentence("6: no other ITEM is looked at", EnginesEdgesTest::otherItems);
        CHECK.sentence("6: of a place 0 to 5, by a SHEET 0 to 7", EnginesEdgesTest::allPlaces);
        CHECK.sentence("6: without a SICKNESS", EnginesEdgesTest::withoutSickness);
        CHECK.sentence("6: a BAD NUMBER leaves the ENGINE, its FOUND CARD and status()", EnginesEdgesTest::badNumber);
        CHECK.sentence("6: the ENGINE stays when its SHEET is changed or dropped", EnginesEdgesTest::sheetGone);
        CHECK.sentence("7: ROD: 0, or 4 to 20", EnginesEdgesTest::rodOfAdjust);
        CHECK.sentence("7: which is 0 to 10", EnginesEdgesTest::whichOfAdjust);
        CHECK.sentence("7: that NUMBER of that ENGINE alone", EnginesEdgesTest::adjustAlone);
        CHECK.sentence("8: a SICKNESS is 0 to 12: which it had", EnginesEdgesTest::sicken);
        CHECK.sentence("8: all NUMBERS stay, and all other ENGINES", EnginesEdgesTest::sickenAlone);
        CHECK.sentence("9: from each place to each", EnginesEdgesTest::twinOfAll);
        CHECK.sentence("9: like that of another one, but two ENGINES", EnginesEdgesTest::twinsAreTwo);
        CHECK.sentence("9: its FOUND CARD is no part of it", EnginesEdgesTest::twinWithoutCard);
        CHECK.sentence("10: 1, then 0: it was empty", EnginesEdgesTest::clear);
        CHECK.sentence("10: all other places stay", EnginesEdgesTest::clearAlone);
        CHECK.sentence("11: NUMBERS 0 to 10, SICKNESS 11", EnginesEdgesTest::number);
        CHECK.end();
    }

    private static int madeOf(int which, int v) {
        ValveShop x = new ValveShop();
        Shops.fill(x, 0, Shops.PLAIN);
        x.set(0, which, v);
        int answer = x.engine(3, 0, 0);
        CHECK.due("count(1) after it", x.count(1), answer == 1 ? 1 : 0);
        CHECK.due("status() after it", x.status(), 0);
        return answer == 1 ? x.number(3, which) : answer;
    }

    private static void numberOfEngine(int which) {
        CHECK.due("the least", madeOf(which, LEAST[which]), LEAST[which]);
        CHECK.due("the greatest", madeOf(which, MOST[which]), MOST[which]);
        CHECK.due("one less", madeOf(which, LEAST[which] - 1), Check.BAD);
        CHECK.due("one more", madeOf(which, MOST[which] + 1), Check.BAD);
        CHECK.due("MIN", madeOf(which, MIN), Check.BAD);
        CHECK.due("MAX", madeOf(which, MAX), Check.BAD);
    }

    private static void numberOfAdjust(int which) {
        ValveShop x = Shops.plain();
        CHECK.due("the least", x.adjust(0, which, LEAST[which]), Shops.PLAIN[which]);
        CHECK.due("the greatest", x.adjust(0, which, MOST[which]), LEAST[which]);
        CHECK.due("one less", x.adjust(0, which, LEAST[which] - 1), Check.BAD);
        CHECK.due("one more", x.adjust(0, which, MOST[which] + 1), Check.BAD);
        CHECK.due("MIN", x.adjust(0, which, MIN), Check.BAD);
        CHECK.due("MAX", x.adjust(0, which, MAX), Check.BAD);
        CHECK.due("it stays", x.number(0, which), MOST[which]);
        CHECK.due("of an empty place", x.adjust(1, which, MOST[which]), Check.NULL);
        CHECK.due("BAD first", x.adjust(1, which, MOST[which] + 1), Check.BAD);
        CHECK.due("BAD first", x.adjust(1, which, LEAST[which] - 1), Check.BAD);
    }

    private static void rodOfEngine() {
        int[] taken = {0, 4, 5, 19, 20};
        int[] bad = {-4, -1, 1, 2, 3, 21};
        for (int rod : taken) {
            CHECK.due("ROD " + rod, madeOf(0, rod), rod);
        }
        for (int rod : bad) {
            CHECK.due("ROD " + rod, madeOf(0, rod), Check.BAD);
        }
    }

    private static void rodOfAdjust() {
        ValveShop x = Shops.with(9, 100, 2, 0, 40, 0, 40, 50, 10, 10, 100);
        int was = 9;
        for (int rod = -5; rod <= 22; rod++) {
            boolean taken = rod == 0 || rod >= 4 && rod <= 20;
            CHECK.due("ROD " + rod, x.adjust(0, 0, rod), taken ? was : Check.BAD);
            was = taken ? rod : was;
            CHECK.due("number(0, 0)", x.number(0, 0), was);
        }
    }

    private static void placesOfEngine() {
        for (int n : new int[] {11, 12, 60}) {
            ValveShop x = new ValveShop();
            Shops.fill(x, 0, Shops.PLAIN);
            x.sheet(1, 2, n);
            x.copy(0, 0, 1, n - 11, 11);
            CHECK.due("the last 11 ITEMS", x.engine(0, 1, n - 11), 1);
            CHECK.due("one further", x.engine(0, 1, n - 10), Check.PLACE);
            CHECK.due("at the end", x.engine(0, 1, n), Check.PLACE);
            CHECK.due("ahead of the first", x.engine(0, 1, -1), Check.PLACE);
            CHECK.due("MIN", x.engine(0, 1, MIN), Check.PLACE);
            CHECK.due("MAX", x.engine(0, 1, MAX), Check.PLACE);
            CHECK.due("MAX - 10", x.engine(0, 1, MAX - 10), Check.PLACE);
            CHECK.due("status()", x.status(), 2);
        }
        ValveShop x = new ValveShop();
        Shops.fill(x, 0, Shops.PLAIN);
        x.sheet(1, 2, 10);
        x.copy(0, 0, 1, 0, 10);
        CHECK.due("10 ITEMS", x.engine(0, 1, 0), Check.PLACE);
        CHECK.due("the first 11 ITEMS", x.engine(0, 0, 0), 1);
    }

    private static void otherItems() {
        ValveShop x = new ValveShop();
        Shops.fill(x, 0, Shops.PLAIN);
        x.sheet(1, 2, 13);
        x.copy(0, 0, 1, 1, 11);
        x.set(1, 0, MIN);
        x.set(1, 12, MAX);
        CHECK.due("engine(0, 1, 1)", x.engine(0, 1, 1), 1);
        for (int which = 0; which < 11; which++) {
            CHECK.due("number(0, " + which + ")", x.number(0, which), Shops.PLAIN[which]);
        }
        CHECK.due("engine(0, 1, 0)", x.engine(0, 1, 0), Check.BAD);
        CHECK.due("engine(0, 1, 2)", x.engine(0, 1, 2), Check.BAD);
    }

    private static void allPlaces() {
        for (int place = 0; place < 6; place++) {
            for (int sheet = 0; sheet < 8; sheet++) {
                ValveShop x = new ValveShop();
                Shops.fill(x, sheet, Shops.PLAIN);
                CHECK.due("engine(" + place + ", " + sheet + ", 0)", x.engine(place, sheet, 0), 1);
                CHECK.due("its THROW", x.number(place, 1), 100);
                CHECK.due("count(1)", x.count(1), 1);
            }
        }
    }

    private static void withoutSickness() {
        ValveShop x = new ValveShop();
        Shops.fill(x, 0, Shops.PLAIN);
        for (int sickness = 1; sickness <= 12; sickness++) {
            x.engine(2, 0, 0);
            CHECK.due("it has none", x.sicken(2, sickness), 0);
        }
        x.clear(2);
        x.engine(2, 0, 0);
        CHECK.due("after an empty place", x.number(2, 11), 0);
    }

    private static void badNumber() {
        for (int which = 0; which < 11; which++) {
            ValveShop x = Shops.plain();
            Shops.fill(x, 1, new int[48]);
            x.sicken(0, 6);
            x.find(0, 6, 1000, 1, 0);
            Shops.fill(x, 0, MOST);
            x.set(0, which, MOST[which] + 1);
            x.kind(5);
            CHECK.due("a BAD " + NAMES[which], x.engine(0, 0, 0), Check.BAD);
            CHECK.due("status()", x.status(), 1);
            for (int i = 0; i < 11; i++) {
                CHECK.due("number(0, " + i + ")", x.number(0, i), Shops.PLAIN[i]);
            }
            CHECK.due("its SICKNESS", x.number(0, 11), 6);
            CHECK.due("its FOUND CARD", x.count(6), 1);
            CHECK.due("nothing at an empty place", x.engine(1, 0, 0), Check.BAD);
            CHECK.due("count(1)", x.count(1), 1);
        }
    }

    private static void sheetGone() {
        ValveShop x = new ValveShop();
        Shops.fill(x, 0, Shops.PLAIN);
        x.engine(0, 0, 0);
        x.set(0, 1, 150);
        CHECK.due("number(0, 1)", x.number(0, 1), 100);
        x.sheet(0, 0, 2);
        CHECK.due("number(0, 1)", x.number(0, 1), 100);
        x.drop(0);
        CHECK.due("number(0, 1)", x.number(0, 1), 100);
    }

    private static void whichOfAdjust() {
        ValveShop x = Shops.plain();
        CHECK.due("which 0", x.adjust(0, 0, 10), 0);
        CHECK.due("which 10", x.adjust(0, 10, 10), 100);
        for (int which : new int[] {-1, 11, 12, MIN, MAX}) {
            CHECK.due("which " + which, x.adjust(0, which, 10), Check.BAD);
            CHECK.due("which " + which, x.adjust(0, which, 0), Check.BAD);
        }
        CHECK.due("its SICKNESS stays", x.number(0, 11), 0);
    }

    private static void adjustAlone() {
        for (int which = 0; which < 11; which++) {
            ValveShop x = Shops.plain();
            x.twin(1, 0);
            x.sicken(0, 8);
            CHECK.due("what it was", x.adjust(0, which, MOST[which]), Shops.PLAIN[which]);
            for (int i = 0; i < 11; i++) {
                CHECK.due("number(0, " + i + ")", x.number(0, i), i == which ? MOST[i] : Shops.PLAIN[i]);
                CHECK.due("number(1, " + i + ")", x.number(1, i), Shops.PLAIN[i]);
            }
            CHECK.due("its SICKNESS", x.number(0, 11), 8);
        }
    }

    private static void sicken() {
        for (int place = 0; place < 6; place++) {
            ValveShop x = new ValveShop();
            Shops.put(x, place, Shops.PLAIN);
            for (int sickness = 1; sickness <= 12; sickness++) {
                CHECK.due("sicken(" + place + ", " + sickness + ")", x.sicken(place, sickness), sickness - 1);
            }
            CHECK.due("sicken(" + place + ", 13)", x.sicken(place, 13), Check.BAD);
            CHECK.due("sicken(" + place + ", -1)", x.sicken(place, -1), Check.BAD);
            CHECK.due("sicken(" + place + ", 12)", x.sicken(place, 12), 12);
            CHECK.due("sicken(" + place + ", 0)", x.sicken(place, 0), 12);
            CHECK.due("number(" + place + ", 11)", x.number(place, 11), 0);
        }
    }

    private static void sickenAlone() {
        ValveShop x = Shops.plain();
        x.twin(1, 0);
        x.sicken(0, 9);
        for (int which = 0; which < 11; which++) {
            CHECK.due("number(0, " + which + ")", x.number(0, which), Shops.PLAIN[which]);
        }
        CHECK.due("the other one", x.number(1, 11), 0);
    }

    private static void twinOfAll() {
        for (int place = 0; place < 6; place++) {
            ValveShop x = new ValveShop();
            Shops.put(x, place, Shops.PLAIN);
            x.adjust(place, 1, 20 + place);
            x.sicken(place, 12 - place);
            for (int to = 0; to < 6; to++) {
                CHECK.due("twin(" + to + ", " + place + ")", x.twin(to, place), 1);
                CHECK.due("its THROW", x.number(to, 1), 20 + place);
                CHECK.due("its SICKNESS", x.number(to, 11), 12 - place);
            }
            CHECK.due("count(1)", x.count(1), 6);
        }
    }

    private static void twinsAreTwo() {
        ValveShop x = Shops.with(MOST);
        x.sicken(0, 3);
        x.twin(5, 0);
        for (int which = 0; which < 11; which++) {
            CHECK.due("number(5, " + which + ")", x.number(5, which), MOST[which]);
            x.adjust(5, which, LEAST[which]);
        }
        x.sicken(5, 0);
        for (int which = 0; which < 11; which++) {
            CHECK.due("number(0, " + which + ")", x.number(0, which), MOST[which]);
            CHECK.due("number(5, " + which + ")", x.number(5, which), LEAST[which]);
        }
        CHECK.due("the SICKNESS of the first", x.number(0, 11), 3);
        x.clear(0);
        CHECK.due("the second is there yet", x.number(5, 1), 10);
    }

    private static void twinWithoutCard() {
        ValveShop x = Shops.plain();
        Shops.fill(x, 1, new int[48]);
        x.find(0, 6, 1000, 1, 0);
        x.twin(1, 0);
        CHECK.due("the twin has none", x.misfit(1, 0), Check.STATE);
        CHECK.due("the first has its own yet", x.misfit(0, 0) >= 0 ? 1 : 0, 1);
        CHECK.due("count(6)", x.count(6), 1);
    }

    private static void clear() {
        for (int place = 0; place < 6; place++) {
            ValveShop x = new ValveShop();
            Shops.put(x, place, Shops.PLAIN);
            CHECK.due("clear(" + place + ")", x.clear(place), 1);
            CHECK.due("number(" + place + ", 0)", x.number(place, 0), Check.NULL);
            CHECK.due("clear(" + place + ")", x.clear(place), 0);
            CHECK.due("it leaves status()", x.status(), 1);
            Shops.put(x, place, Shops.PLAIN);
            CHECK.due("clear(" + place + ")", x.clear(place), 1);
            CHECK.due("it leaves status()", x.status(), 0);
        }
    }

    private static void clearAlone() {
        for (int place = 0; place < 6; place++) {
            ValveShop x = new ValveShop();
            Shops.put(x, 0, Shops.PLAIN);
            for (int to = 1; to < 6; to++) {
                x.twin(to, 0);
            }
            x.clear(place);
            for (int other = 0; other < 6; other++) {
                CHECK.due("number(" + other + ", 1)", x.number(other, 1), other == place ? Check.NULL : 100);
            }
        }
    }

    private static void number() {
        ValveShop x = Shops.with(MOST);
        x.sicken(0, 5);
        for (int which = 0; which < 11; which++) {
            CHECK.due("number(0, " + which + ")", x.number(0, which), MOST[which]);
        }
        CHECK.due("number(0, 11)", x.number(0, 11), 5);
        CHECK.due("number(0, 12)", x.number(0, 12), Check.BAD);
        CHECK.due("number(0, -1)", x.number(0, -1), Check.BAD);
        CHECK.due("number(0, MAX)", x.number(0, MAX), Check.BAD);
        CHECK.due("number(0, MIN)", x.number(0, MIN), Check.BAD);
    }
}
