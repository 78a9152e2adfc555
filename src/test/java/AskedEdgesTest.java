/** Promises 32 to 38: each sentence that names an edge. */
public final class AskedEdgesTest {
    private static final Check CHECK = new Check("edges of asks");
    private static final int MIN = Integer.MIN_VALUE, MAX = Integer.MAX_VALUE;
    private static final int ENGINE = 0, SOUND = 1, EVEN = 2, SICK = 3, STUCK = 4;

    // UNLIKE is 7, 6, 6 (of which in NOTCH 0 it were 24 more)
    private static final int[] UNLIKE_7 = {19, 139, 7, 17, 4, -9, 63, 68, 55, 32, 29};
    private static final int[] UNLIKE_6 = {0, 153, 0, -11, 9, 10, 55, 26, 58, 8, 184};
    private static final int[] EVEN_WITH_LEAD = {5, 190, 3, 10, 75, -15, 15, 124, 72, 33, 494};
    private static final int[] SOUND_WITHOUT_LEAD = Shops.PLAIN;
    // by SICKNESSES 5 and 8: WORK is 275 and -1
    private static final int[] SICK_BY_5 = {17, 119, 5, 9, 74, 38, 47, 96, 32, 24, 357};
    private static final int[] STUCK_BY_8 = {16, 75, 10, -16, 89, -13, 80, 194, 61, 28, 344};

    /** Of which KINDS, 0 to 4, the ENGINES at places 0 to 4 of withAll() are. */
    private static final int[][] KINDS_OF_ALL = {{1, 1, 0, 0, 0}, {1, 1, 1, 0, 0}, {1, 0, 0, 1, 0}, {1, 0, 0, 1, 1}, {0, 0, 0, 0, 0}};

    private AskedEdgesTest() {
    }

    public static void main(String[] args) {
        kinds();
        asks();
        countsAndStatus();
        CHECK.end();
    }

    private static void kinds() {
        CHECK.sentence("32: EVEN: UNLIKE is 6 or less", AskedEdgesTest::evenBySix);
        CHECK.sentence("32: SOUND: no SICKNESS; SICK: one of 1 to 12", AskedEdgesTest::soundAndSick);
        CHECK.sentence("32: EVEN is a SOUND one", AskedEdgesTest::evenIsSound);
        CHECK.sentence("32: STUCK: WORK is 0 or less", AskedEdgesTest::stuckByNothing);
        CHECK.sentence("32: STUCK: in NOTCH 6, BOILER 1000, REGULATOR 4", AskedEdgesTest::stuckByNotch);
        CHECK.sentence("32: STUCK is a SICK one", AskedEdgesTest::stuckIsSick);
        CHECK.sentence("33: the one as which it is told, or one that this is, too", AskedEdgesTest::is);
        CHECK.sentence("33: of nothing 0", AskedEdgesTest::isOfNothing);
        CHECK.sentence("33: it leaves status()", AskedEdgesTest::isLeavesStatus);
        CHECK.sentence("34: its THROW, 10 to 200; KIND: it is not that, too", AskedEdgesTest::as);
    }

    private static void asks() {
        CHECK.sentence("35: WORTH 10, lent: THROW; 11: and LEAD", AskedEdgesTest::worthOfSound);
        CHECK.sentence("35: WORTH 12: what 11 gives, and MARK", AskedEdgesTest::worthOfEven);
        CHECK.sentence("35: WORTH 13: what 10 gives, less the SICKNESS", AskedEdgesTest::worthOfSick);
        CHECK.sentence("35: WORTH 14: twice what 13 gives (asked once)", AskedEdgesTest::worthOfStuck);
        CHECK.sentence("35: MARK 20, lent: LAP", AskedEdgesTest::markOfSound);
        CHECK.sentence("35: MARK 21: what 20 gives, and 100", AskedEdgesTest::markOfEven);
        CHECK.sentence("35: MARK 22: what 20 gives, and WORTH", AskedEdgesTest::markOfSick);
        CHECK.sentence("35: MARK 23: what 22 gives, less 1000", AskedEdgesTest::markOfStuck);
        CHECK.sentence("35: of the ENGINE as it is then", AskedEdgesTest::askedAnew);
        CHECK.sentence("35: THE TRACE is empty ahead of it, if it is not BAD", AskedEdgesTest::traceEmptied);
        CHECK.sentence("36: number i of THE TRACE, from 0 on; NONE", AskedEdgesTest::traceEnds);
        CHECK.sentence("36: it stays till the next ask", AskedEdgesTest::traceStays);
    }

    private static void countsAndStatus() {
        CHECK.sentence("37: 0 SHEETS, 0 to 8", AskedEdgesTest::countOfSheets);
        CHECK.sentence("37: 1 ENGINES, 2 SOUND (EVEN, too), 3 EVEN, 4 SICK (STUCK, too), 5 STUCK ones", AskedEdgesTest::countOfKinds);
        CHECK.sentence("37: 6 FOUND CARDS, 0 to 6", AskedEdgesTest::countOfCards);
        CHECK.sentence("37: 7 STRETCHES of the PLAN, 0 to 10", AskedEdgesTest::countOfStretches);
        CHECK.sentence("37: what is 0 to 7; it leaves status()", AskedEdgesTest::countEnds);
        CHECK.sentence("38: 0: there was none", AskedEdgesTest::statusOfNone);
        CHECK.sentence("38: the number of its FINDING, of the latest call", AskedEdgesTest::statusOfLatest);
        CHECK.sentence("38: 0: it had none (NONE as an answer, too)", AskedEdgesTest::statusOfNoneAsAnswer);
        CHECK.sentence("38: BAD leaves it, of each call", AskedEdgesTest::badLeavesStatus);
        CHECK.sentence("38: STATE leaves it, FULL leaves it", AskedEdgesTest::stateLeavesStatus);
        CHECK.sentence("38: calls without a SHEET or a place, clear(), is() leave it", AskedEdgesTest::whatLeavesStatus);
    }

    private static ValveShop sick(int sickness, int... numbers) {
        ValveShop x = Shops.with(numbers);
        x.sicken(0, sickness);
        return x;
    }

    private static void evenBySix() {
        CHECK.due("UNLIKE", Shops.with(UNLIKE_6).valves(0, 0), 6);
        CHECK.due("UNLIKE 6", Shops.with(UNLIKE_6).kind(0), EVEN);
        CHECK.due("UNLIKE", Shops.with(UNLIKE_7).valves(0, 0), 7);
        CHECK.due("UNLIKE 7", Shops.with(UNLIKE_7).kind(0), SOUND);
        int[] unlike5 = {14, 176, 6, -11, 7, -16, 64, 105, 27, 17, 374};
        CHECK.due("UNLIKE", Shops.with(unlike5).valves(0, 0), 5);
        CHECK.due("UNLIKE 5", Shops.with(unlike5).kind(0), EVEN);
        CHECK.due("UNLIKE 0", Shops.with(0, 100, 3, -1, 40, 0, 40, 50, 10, 10, 100).kind(0), EVEN);
        CHECK.due("UNLIKE 144", Shops.with(Shops.SHUT).kind(0), SOUND);
        int even = 0;
        int sound = 0;
        for (int hang = -20; hang <= 20; hang++) {
            ValveShop x = Shops.with(0, 100, 4, hang, 19, 0, 40, 50, 10, 10, 100);
            int unlike = x.valves(0, 0);
            even += unlike <= 6 ? 1 : 0;
            sound += unlike > 6 ? 1 : 0;
            CHECK.due("UNLIKE " + unlike, x.kind(0), unlike <= 6 ? EVEN : SOUND);
        }
        CHECK.holds("there are both", even > 0 && sound > 0);
    }

    private static void soundAndSick() {
        ValveShop x = Shops.plain();
        CHECK.due("none", x.kind(0), SOUND);
        for (int sickness = 1; sickness <= 12; sickness++) {
            x.sicken(0, sickness);
            CHECK.due("SICKNESS " + sickness, x.kind(0), SICK);
        }
        x.sicken(0, 0);
        CHECK.due("none again", x.kind(0), SOUND);
    }

    private static void evenIsSound() {
        ValveShop x = Shops.with(0, 100, 3, -1, 40, 0, 40, 50, 10, 10, 100);
        CHECK.due("EVEN", x.kind(0), EVEN);
        x.sicken(0, 7);
        CHECK.due("as alike, but with a LEAK", x.valves(0, 0), 0);
        CHECK.due("SICK", x.kind(0), SICK);
        CHECK.due("is EVEN", x.is(0, EVEN), 0);
        CHECK.due("as EVEN", x.as(0, EVEN), Check.KIND);
    }

    private static void stuckByNothing() {
        int[][] engines = {{11, 39, 5, 14, 49, 22, 52, 186, 9, 16, 216}, {16, 23, 10, 14, 31, 32, 67, 196, 100, 81, 45}, STUCK_BY_8,
            {0, 23, 5, -10, 23, -2, 67, 73, 53, 43, 199}, Shops.SHUT};
        int[][] due = {
            // SICKNESS, WORK, KIND: by 1794, -726, -2997, 2897, 0 together
            {4, 0, STUCK}, {1, 0, STUCK}, {8, -1, STUCK}, {4, 1, SICK}, {1, 0, STUCK}};
        for (int i = 0; i < due.length; i++) {
            ValveShop x = sick(due[i][0], engines[i]);
            CHECK.due("WORK", x.work(0, 6, 1000, 4, 0), due[i][1]);
            CHECK.due("WORK " + due[i][1], x.kind(0), due[i][2]);
        }
    }

    private static void stuckByNotch() {
        ValveShop x = sick(1, 16, 23, 10, 14, 31, 32, 67, 196, 100, 81, 45);
        CHECK.holds("in NOTCH 5 it would go", x.work(0, 5, 1000, 4, 0) > 0);
        CHECK.holds("by REGULATOR 3 it would go", x.work(0, 6, 1000, 3, 0) > 0);
        CHECK.due("STUCK", x.kind(0), STUCK);
        x = sick(11, 18, 91, 2, 12, 79, -14, 59, 194, 72, 51, 203);
        CHECK.holds("in NOTCH 5 it would not go", x.work(0, 5, 1000, 4, 0) <= 0);
        CHECK.due("SICK", x.kind(0), SICK);
        x = sick(5, SICK_BY_5);
        CHECK.holds("by REGULATOR 3 it would not go", x.work(0, 6, 1000, 3, 0) <= 0);
        CHECK.due("SICK", x.kind(0), SICK);
        x = sick(7, 20, 57, 7, -6, 78, 12, 48, 129, 66, 98, 233);
        CHECK.holds("by BOILER 999 it would not go", x.work(0, 6, 999, 4, 0) <= 0);
        CHECK.due("SICK", x.kind(0), SICK);
        x = sick(4, 11, 39, 5, 14, 49, 22, 52, 186, 9, 16, 216);
        CHECK.holds("by BOILER 1001 it would go", x.work(0, 6, 1001, 4, 0) > 0);
        CHECK.due("STUCK", x.kind(0), STUCK);
    }

    private static void stuckIsSick() {
        ValveShop x = Shops.with(Shops.SHUT);
        CHECK.due("no WORK, but no SICKNESS", x.kind(0), SOUND);
        CHECK.due("is STUCK", x.is(0, STUCK), 0);
        x.sicken(0, 4);
        CHECK.due("with a SICKNESS", x.kind(0), STUCK);
    }

    /** Places 0 to 4: SOUND, EVEN, SICK, STUCK, nothing. */
    private static ValveShop withAll() {
        ValveShop x = Shops.with(UNLIKE_7);
        Shops.put(x, 1, EVEN_WITH_LEAD);
        Shops.put(x, 2, SICK_BY_5);
        Shops.put(x, 3, STUCK_BY_8);
        x.sicken(2, 5);
        x.sicken(3, 8);
        x.drop(0);
        return x;
    }

    private static void is() {
        ValveShop x = withAll();
        int[] told = {SOUND, EVEN, SICK, STUCK};
        for (int place = 0; place < 4; place++) {
            CHECK.due("kind(" + place + ")", x.kind(place), told[place]);
            for (int kind = ENGINE; kind <= STUCK; kind++) {
                CHECK.due("is(" + place + ", " + kind + ")", x.is(place, kind), KINDS_OF_ALL[place][kind]);
            }
        }
        for (int kind : new int[] {-1, 5, MIN, MAX}) {
            CHECK.due("is(0, " + kind + ")", x.is(0, kind), Check.BAD);
            CHECK.due("as(0, " + kind + ")", x.as(0, kind), Check.BAD);
        }
    }

    private static void isOfNothing() {
        ValveShop x = withAll();
        for (int kind = ENGINE; kind <= STUCK; kind++) {
            CHECK.due("is(4, " + kind + ")", x.is(4, kind), 0);
            CHECK.due("as(4, " + kind + ")", x.as(4, kind), Check.NULL);
        }
        x.clear(3);
        CHECK.due("is(3, STUCK)", x.is(3, STUCK), 0);
        CHECK.due("is(3, ENGINE)", x.is(3, ENGINE), 0);
    }

    private static void isLeavesStatus() {
        ValveShop x = withAll();
        x.kind(4);
        for (int place = 0; place < 6; place++) {
            for (int kind = ENGINE; kind <= STUCK; kind++) {
                x.is(place, kind);
                CHECK.due("status()", x.status(), 1);
            }
        }
        x.kind(0);
        x.is(4, 0);
        CHECK.due("status()", x.status(), 0);
    }

    private static void as() {
        ValveShop x = withAll();
        int[] throwOf = {139, 190, 119, 75};
        for (int place = 0; place < 4; place++) {
            for (int kind = ENGINE; kind <= STUCK; kind++) {
                boolean fits = KINDS_OF_ALL[place][kind] == 1;
                CHECK.due("as(" + place + ", " + kind + ")", x.as(place, kind), fits ? throwOf[place] : Check.KIND);
                CHECK.due("status()", x.status(), fits ? 0 : 3);
            }
        }
        x.adjust(0, 1, 10);
        CHECK.due("THROW 10", x.as(0, ENGINE), 10);
        x.adjust(0, 1, 200);
        CHECK.due("THROW 200", x.as(0, ENGINE), 200);
    }

    private static void asked(ValveShop x, int place, int what, int due, int... bodies) {
        CHECK.due("ask(" + place + ", " + what + ")", x.ask(place, what), due);
        for (int i = 0; i < 20; i++) {
            CHECK.due("trace(" + i + ")", x.trace(i), i < bodies.length ? bodies[i] : Check.NONE);
        }
    }

    private static void worthOfSound() {
        ValveShop x = withAll();
        CHECK.due("LEAD", x.valves(0, 1), 63);
        asked(x, 0, 0, 139 + 63, 11, 10);
        asked(Shops.with(SOUND_WITHOUT_LEAD), 0, 0, 100, 11, 10);
        CHECK.due("LEAD", Shops.with(SOUND_WITHOUT_LEAD).valves(0, 1), 0);
    }

    private static void worthOfEven() {
        ValveShop x = withAll();
        CHECK.due("LEAD", x.valves(1, 1), 7);
        asked(x, 1, 0, 190 + 7 + 75 + 100, 12, 11, 10, 21, 20);
        asked(Shops.with(UNLIKE_6), 0, 0, 153 + 9 + 100, 12, 11, 10, 21, 20);
    }

    private static void worthOfSick() {
        ValveShop x = withAll();
        CHECK.due("LEAD is no part of it", x.valves(2, 1), 29);
        asked(x, 2, 0, 119 - 5, 13, 10);
        ValveShop y = Shops.plain();
        for (int sickness = 1; sickness <= 12; sickness++) {
            y.sicken(0, sickness);
            asked(y, 0, 0, 100 - sickness, 13, 10);
        }
    }

    private static void worthOfStuck() {
        asked(withAll(), 3, 0, 2 * (75 - 8), 14, 13, 10);
        // THROW 10 less SICKNESS 12, twice
        asked(sick(12, Shops.SHUT), 0, 0, -4, 14, 13, 10);
    }

    private static void markOfSound() {
        asked(withAll(), 0, 1, 4, 20);
        ValveShop x = Shops.with(Shops.SHUT);
        asked(x, 0, 1, 100, 20);
        x.adjust(0, 4, 90);
        asked(x, 0, 1, 90, 20);
    }

    private static void markOfEven() {
        asked(withAll(), 1, 1, 75 + 100, 21, 20);
        asked(Shops.with(UNLIKE_6), 0, 1, 9 + 100, 21, 20);
    }

    private static void markOfSick() {
        asked(withAll(), 2, 1, 74 + 119 - 5, 22, 20, 13, 10);
        asked(sick(12, Shops.PLAIN), 0, 1, 40 + 100 - 12, 22, 20, 13, 10);
    }

    private static void markOfStuck() {
        asked(withAll(), 3, 1, 89 + 2 * (75 - 8) - 1000, 23, 22, 20, 14, 13, 10);
        asked(sick(1, Shops.SHUT), 0, 1, 100 + 2 * (10 - 1) - 1000, 23, 22, 20, 14, 13, 10);
    }

    private static void askedAnew() {
        ValveShop x = Shops.with(SICK_BY_5);
        CHECK.due("kind", x.kind(0), SOUND);
        asked(x, 0, 0, 119 + x.valves(0, 1), 11, 10);
        x.sicken(0, 5);
        asked(x, 0, 0, 114, 13, 10);
        x.adjust(0, 1, 10);
        CHECK.due("kind", x.kind(0), STUCK);
        asked(x, 0, 0, 10, 14, 13, 10);
        x.adjust(0, 1, 119);
        x.sicken(0, 0);
        x.tune(0);
        CHECK.due("kind", x.kind(0), EVEN);
        asked(x, 0, 1, 174, 21, 20);
    }

    private static void traceEmptied() {
        ValveShop x = withAll();
        asked(x, 3, 1, -777, 23, 22, 20, 14, 13, 10);
        int[][] bad = {{3, 2}, {3, -1}, {6, 0}, {-1, 1}, {4, 2}};
        for (int[] a : bad) {
            CHECK.due("ask(" + a[0] + ", " + a[1] + ")", x.ask(a[0], a[1]), Check.BAD);
            CHECK.due("trace(0)", x.trace(0), 23);
            CHECK.due("trace(5)", x.trace(5), 10);
        }
        asked(x, 0, 1, 4, 20);
        CHECK.due("of nothing", x.ask(4, 0), Check.NULL);
        CHECK.due("trace(0)", x.trace(0), Check.NONE);
        CHECK.due("status()", x.status(), 1);
        asked(x, 0, 1, 4, 20);
        CHECK.due("of nothing", x.ask(5, 1), Check.NULL);
        CHECK.due("trace(0)", x.trace(0), Check.NONE);
    }

    private static void traceEnds() {
        ValveShop x = withAll();
        CHECK.due("nothing yet", x.trace(0), Check.NONE);
        x.ask(3, 1);
        CHECK.due("the first", x.trace(0), 23);
        CHECK.due("the last", x.trace(5), 10);
        for (int i : new int[] {-1, 6, 15, 16, 17, MIN, MAX}) {
            CHECK.due("trace(" + i + ")", x.trace(i), Check.NONE);
        }
    }

    private static void traceStays() {
        ValveShop x = withAll();
        x.ask(1, 0);
        x.kind(3);
        x.as(2, SICK);
        x.is(0, SOUND);
        x.count(3);
        x.clear(1);
        x.tune(0);
        x.status();
        int[] bodies = {12, 11, 10, 21, 20, Check.NONE};
        for (int i = 0; i < bodies.length; i++) {
            CHECK.due("trace(" + i + ")", x.trace(i), bodies[i]);
        }
    }

    private static void countOfSheets() {
        ValveShop x = new ValveShop();
        for (int sheet = 0; sheet < 8; sheet++) {
            x.sheet(sheet, sheet % 3, sheet % 2);
            CHECK.due("count(0)", x.count(0), sheet + 1);
            x.sheet(sheet, 2, 60);
            CHECK.due("in place of it", x.count(0), sheet + 1);
        }
        for (int sheet = 7; sheet >= 0; sheet--) {
            x.drop(sheet);
            CHECK.due("count(0)", x.count(0), sheet);
        }
    }

    private static void countsAre(ValveShop x, int... due) {
        for (int what = 1; what <= 5; what++) {
            CHECK.due("count(" + what + ")", x.count(what), due[what - 1]);
        }
    }

    private static void countOfKinds() {
        ValveShop x = withAll();
        countsAre(x, 4, 2, 1, 2, 1);
        for (int place = 0; place < 4; place++) {
            ValveShop y = withAll();
            for (int to = 0; to < 6; to++) {
                y.twin(to, place);
            }
            int[] kinds = KINDS_OF_ALL[place];
            countsAre(y, 6, 6 * kinds[SOUND], 6 * kinds[EVEN], 6 * kinds[SICK], 6 * kinds[STUCK]);
            y.clear(5);
            countsAre(y, 5, 5 * kinds[SOUND], 5 * kinds[EVEN], 5 * kinds[SICK], 5 * kinds[STUCK]);
        }
        x.sicken(1, 3);
        x.sicken(3, 0);
        int even = x.kind(3) == EVEN ? 1 : 0;
        int stuck = x.kind(1) == STUCK ? 1 : 0;
        countsAre(x, 4, 2, even, 2, stuck);
    }

    private static void countOfCards() {
        ValveShop x = Shops.plain();
        Shops.fill(x, 1, new int[48]);
        for (int place = 1; place < 6; place++) {
            x.twin(place, 0);
        }
        for (int place = 0; place < 6; place++) {
            CHECK.due("count(6)", x.count(6), place);
            x.find(place, 0, 0, 1, 0);
            x.find(place, 1, 1, 1, 0);
        }
        CHECK.due("count(6)", x.count(6), 6);
        x.clear(5);
        CHECK.due("count(6)", x.count(6), 5);
    }

    private static void countOfStretches() {
        ValveShop x = Shops.plain();
        int[] road = new int[30];
        for (int s = 0; s < 10; s++) {
            road[3 * s] = 1;
        }
        Shops.fill(x, 1, road);
        CHECK.due("none yet", x.count(7), 0);
        for (int n : new int[] {10, 1, 5}) {
            x.run(0, 1000, 1000, 1, 0, n);
            CHECK.due("count(7)", x.count(7), n);
        }
    }

    private static void countEnds() {
        ValveShop x = Full.shop();
        for (int what : new int[] {-1, 8, MIN, MAX}) {
            CHECK.due("count(" + what + ")", x.count(what), Check.BAD);
        }
        int[] due = {6, 5, 2, 1, 3, 1, 2, 2};
        for (int what = 0; what <= 7; what++) {
            CHECK.due("count(" + what + ")", x.count(what), due[what]);
        }
        CHECK.due("status()", x.status(), Full.STATUS);
    }

    private static void statusOfNone() {
        ValveShop x = new ValveShop();
        CHECK.due("a new shop", x.status(), 0);
        x.stoke(1);
        x.clear(0);
        x.is(0, 0);
        x.kind(6);
        x.misfit(0, 0);
        CHECK.due("no call that counts", x.status(), 0);
    }

    private static void statusOfLatest() {
        ValveShop x = Full.shop();
        int[] due = {1, 2, 3, 4, 5, 0, 4, 1, 5, 2, 0, 3};
        for (int finding : due) {
            switch (finding) {
                case 0: x.set(0, 0, 10); break;
                case 1: x.drop(Full.MISSING); break;
                case 2: x.set(0, 60, 1); break;
                case 3: x.as(0, STUCK); break;
                case 4: x.sheet(0, 0, -1); break;
                default: x.copy(0, 0, 1, 0, 1); break;
            }
            CHECK.due("status()", x.status(), finding);
            CHECK.due("status() itself leaves it", x.status(), finding);
        }
    }

    private static void statusOfNoneAsAnswer() {
        ValveShop x = Full.shop();
        CHECK.due("no EVENT", x.event(0, 0, 0, 0), Check.NONE);
        CHECK.due("status()", x.status(), 0);
        x.as(0, 4);
        CHECK.due("no PLAN", x.run(0, 1000, 0, 0, 0, 1), Check.NONE);
        CHECK.due("status()", x.status(), 0);
        for (int place = 0; place < 6; place++) {
            x.clear(place);
        }
        x.set(0, 60, 0);
        CHECK.due("nobody's", x.whose(0, 0, 0, 0), Check.NONE);
        CHECK.due("status()", x.status(), 0);
        x.set(0, 60, 0);
        CHECK.due("none of THE TRACE", x.trace(9), Check.NONE);
        CHECK.due("none of the PLAN", x.plan(9, 0), Check.NONE);
        CHECK.due("status()", x.status(), 2);
    }

    private static void badLeavesStatus() {
        for (Ranges.Row row : Ranges.rows()) {
            for (int argument = 0; argument < row.args().length; argument++) {
                int most = row.ranges()[argument][1];
                if (most != MAX) {
                    ValveShop x = new ValveShop();
                    x.sheet(0, 0, -1);
                    CHECK.due(row.told(row.with(argument, most + 1)), Talk.ask(x, row.call(), row.with(argument, most + 1)), Check.BAD);
                    CHECK.due("status()", x.status(), 4);
                }
            }
        }
    }

    private static void stateLeavesStatus() {
        ValveShop x = Full.shop();
        CHECK.due("misfit", x.misfit(1, 0), Check.STATE);
        CHECK.due("named", x.named(1, 0, 0), Check.STATE);
        CHECK.due("status()", x.status(), 3);
        for (int i = 0; i < 9; i++) {
            x.stoke(1000);
        }
        CHECK.due("stoke", x.stoke(1000), Check.FULL);
        CHECK.due("status()", x.status(), 3);
        ValveShop y = new ValveShop();
        y.kind(0);
        CHECK.due("plan", y.plan(0, 0), Check.STATE);
        CHECK.due("status()", y.status(), 1);
    }

    private static void whatLeavesStatus() {
        ValveShop x = Full.shop();
        x.clear(0);
        x.clear(Full.EMPTY);
        x.is(1, 2);
        x.is(Full.EMPTY, 0);
        x.plan(0, 0);
        x.plan(9, 0);
        x.stoke(3);
        x.fire(0);
        x.trace(0);
        x.count(5);
        CHECK.due("a FINDING", x.status(), 3);
        x.number(1, 0);
        x.clear(1);
        x.is(2, 2);
        x.plan(-1, 0);
        x.stoke(3);
        x.trace(-1);
        x.count(0);
        CHECK.due("none", x.status(), 0);
    }
}
