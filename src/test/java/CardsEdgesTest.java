/** Promises 19 to 21: each sentence that names an edge. */
public final class CardsEdgesTest {
    private static final Check CHECK = new Check("edges of cards");
    private static final int CLEAR = 7, DRAIN = 9, AIR = 10;

    private CardsEdgesTest() {
    }

    public static void main(String[] args) {
        CHECK.sentence("19: B is BOILER r by 4, cut", CardsEdgesTest::boilerByRegulator);
        CHECK.sentence("19: BOILER 0 to 2000, REGULATOR 0 to 4", CardsEdgesTest::boilerEnds);
        CHECK.sentence("19: PRESSURE is AIR at PLACE 0, three turns round to PLACE 143", CardsEdgesTest::threeTurns);
        CHECK.sentence("19: ROOM is CLEAR and X(k), at END 1 CLEAR and 1000 less X(k)", CardsEdgesTest::rooms);
        CHECK.sentence("19: it is times W of the PLACE ahead by W here, cut", CardsEdgesTest::pressed);
        CHECK.sentence("19: by STEAM open o: (B - it) o by (o + CHOKE)", CardsEdgesTest::steam);
        CHECK.sentence("19: CHOKED is 20, 50, 100; 0 of all others", CardsEdgesTest::choked);
        CHECK.sentence("19: by EXHAUST open o: (AIR - it) o by (o + DRAIN)", CardsEdgesTest::exhaust);
        CHECK.sentence("19: with a LEAK of 5, 10, 20: (B - it) LEAK by 200; 0 of all others", CardsEdgesTest::leak);
        CHECK.sentence("19: in this order: ROOM, STEAM, EXHAUST, LEAK", CardsEdgesTest::inThisOrder);
        CHECK.sentence("19: PLACE k of the CARD is 0 to 47", CardsEdgesTest::placesOfCard);
        CHECK.sentence("20: MEAN: all 48 PRESSURES added, by 48", CardsEdgesTest::mean);
        CHECK.sentence("20: PEAK: the greatest, at PLACE 0 and at PLACE 47, too", CardsEdgesTest::peak);
        CHECK.sentence("20: LOOP: PLACES k from 1", CardsEdgesTest::loopFromOne);
        CHECK.sentence("20: LOOP: PLACES k to 23", CardsEdgesTest::loopToLast);
        CHECK.sentence("20: LOOP: all 23 of them", CardsEdgesTest::loopOfAll);
        CHECK.sentence("20: LOOP: less than that at 48 - k, not as much", CardsEdgesTest::loopOfAlike);
        CHECK.sentence("21: WORK: added, by 2000, cut towards 0", CardsEdgesTest::workCut);
        CHECK.sentence("21: WORK: of both CARDS, over all PLACES (47 goes on to 0)", CardsEdgesTest::workOfAllPlaces);
        CHECK.sentence("21: DRINK: added, by 1000, cut", CardsEdgesTest::drinkCut);
        CHECK.sentence("21: DRINK: what STEAM adds, where that is more than 0", CardsEdgesTest::drinkMoreThanNothing);
        CHECK.sentence("21: DRINK: over PLACES of the third turn, 0 to 47", CardsEdgesTest::drinkOfThirdTurn);
        CHECK.sentence("21: DRINK: of both ENDS", CardsEdgesTest::drinkOfBothEnds);
        CHECK.sentence("19, 20, 21: nothing changes", CardsEdgesTest::nothingChanges);
        CHECK.end();
    }

    private static ValveShop sick(int sickness, int... numbers) {
        ValveShop x = Shops.with(numbers);
        x.sicken(0, sickness);
        return x;
    }

    private static int[] card(ValveShop x, int notch, int boiler, int regulator, int end) {
        int[] row = new int[48];
        for (int k = 0; k < 48; k++) {
            row[k] = x.card(0, notch, boiler, regulator, end, k);
        }
        return row;
    }

    private static int[] plainCard(int boiler, int regulator, int end) {
        return card(Shops.plain(), 6, boiler, regulator, end);
    }

    private static void boilerByRegulator() {
        int[][] same = {
            // BOILER, r, the BOILER by which r is 4
            {1003, 1, 250}, {1004, 1, 251}, {1001, 3, 750}, {1002, 3, 751}, {999, 2, 499}, {1000, 2, 500}, {3, 1, 0}, {4, 1, 1},
            {1, 3, 0}, {2, 3, 1}, {1, 2, 0}, {2000, 3, 1500}, {1777, 0, 0}};
        for (int[] row : same) {
            for (int end = 0; end < 2; end++) {
                CHECK.dueRow("BOILER " + row[0] + ", REGULATOR " + row[1], plainCard(row[0], row[1], end), plainCard(row[2], 4, end));
            }
        }
        CHECK.holds("BOILER 250 is not 251", plainCard(250, 4, 0)[9] != plainCard(251, 4, 0)[9]);
    }

    private static void boilerEnds() {
        ValveShop x = Shops.plain();
        CHECK.due("BOILER 2000, REGULATOR 4", x.card(0, 6, 2000, 4, 0, 9), 1920);
        CHECK.due("BOILER 0, REGULATOR 4", x.card(0, 6, 0, 4, 0, 9), x.card(0, 6, 2000, 0, 0, 9));
        CHECK.due("BOILER 2001", x.card(0, 6, 2001, 4, 0, 9), Check.BAD);
        CHECK.due("BOILER -1", x.card(0, 6, -1, 4, 0, 9), Check.BAD);
        CHECK.due("REGULATOR 5", x.card(0, 6, 1000, 5, 0, 9), Check.BAD);
        CHECK.due("REGULATOR -1", x.card(0, 6, 1000, -1, 0, 9), Check.BAD);
        CHECK.due("REGULATOR 5 is BAD ahead of NULL", x.look(1, 6, 1000, 5, 0, 0), Check.BAD);
        CHECK.due("REGULATOR -1 is BAD ahead of NULL", x.work(1, 6, 1000, -1, 0), Check.BAD);
    }

    private static void threeTurns() {
        // What is shut in loses a bit at each step, so that each turn tells another PRESSURE.
        ValveShop x = Shops.with(0, 10, 0, 0, 100, 50, 1, 20, 1, 1, 500);
        int[][] due = {
            // PLACE, by the third turn; by the second 488, .. 477, by the fourth 461, .. 452
            {0, 475}, {1, 476}, {2, 482}, {12, 920}, {24, 23882}, {36, 917}, {46, 470}, {47, 463}};
        for (int[] pair : due) {
            CHECK.due("END 1 at " + pair[0], x.card(0, 3, 2000, 4, 1, pair[0]), pair[1]);
        }
        x.adjust(0, CLEAR, 200);
        CHECK.dueRow("AIR 500", ends(card(x, 3, 2000, 4, 1)), 472, 473, 466, 460);
        x.adjust(0, AIR, 490);
        CHECK.dueRow("AIR 490", ends(card(x, 3, 2000, 4, 1)), 461, 462, 454, 449);
        x.adjust(0, AIR, 0);
        CHECK.dueRow("AIR 0", ends(card(x, 3, 2000, 4, 1)), 0, 0, 0, 0);
    }

    private static int[] ends(int[] row) {
        return new int[] {row[0], row[1], row[46], row[47]};
    }

    private static int room(ValveShop x, int end, int k) {
        int moved = x.piston(0, k);
        return x.number(0, CLEAR) + (end == 0 ? moved : 1000 - moved);
    }

    private static void rooms() {
        int[] clears = {20, 21, 199, 200};
        for (int clear : clears) {
            for (int end = 0; end < 2; end++) {
                ValveShop x = Shops.with(5, 10, 0, 0, 100, 50, 1, clear, 1, 1, 500);
                int[] row = card(x, 0, 2000, 4, end);
                for (int k = 1; k < 48; k++) {
                    CHECK.due("CLEAR " + clear + ", END " + end + " at " + k, row[k], row[k - 1] * room(x, end, k - 1) / room(x, end, k));
                }
            }
        }
        ValveShop x = Shops.with(0, 10, 0, 0, 100, 50, 1, 20, 1, 1, 500);
        CHECK.due("END 1, pressed to 20 of 1020", x.card(0, 0, 0, 0, 1, 24), 23882);
        x.adjust(0, CLEAR, 200);
        CHECK.due("END 1, pressed to 200 of 1200", x.card(0, 0, 0, 0, 1, 24), 2797);
    }

    private static void pressed() {
        ValveShop x = Shops.with(0, 10, 0, 0, 100, 50, 1, 20, 1, 1, 500);
        int[] row = card(x, 3, 2000, 4, 1);
        // 475 of 1020 in 1016: 476.87; 476 of 1016 in 1003: 482.17; 470 of 1003 in 1016: 463.99
        CHECK.due("at 1", row[1], 476);
        CHECK.due("at 2", row[2], 482);
        CHECK.due("at 47", row[47], 463);
    }

    /** STEAM is open at the head at PLACE 12 alone, or at 11 to 13; EXHAUST is shut there. */
    private static ValveShop hundred(int lap, int choke, int sickness) {
        return sick(sickness, 0, 100, 0, 0, lap, 0, 100, 100, choke, 1, 0);
    }

    private static int stepped(ValveShop x, int k, int before) {
        return before * room(x, 0, k - 1) / room(x, 0, k);
    }

    private static void steam() {
        int[][] due = {
            // LAP, CHOKE, open at 12
            {99, 1, 1}, {99, 2, 1}, {99, 100, 1}, {98, 1, 2}, {60, 1, 40}, {60, 50, 40}, {1, 1, 99}, {1, 100, 99}, {100, 1, 0}};
        for (int[] row : due) {
            ValveShop x = hundred(row[0], row[1], 0);
            CHECK.due("open at 12 by LAP " + row[0], x.open(0, 6, 0, 12, 0), row[2]);
            int it = stepped(x, 12, x.card(0, 6, 1000, 4, 0, 11));
            it += (1000 - it) * row[2] / (row[2] + row[1]);
            CHECK.due("PRESSURE at 12 by LAP " + row[0] + ", CHOKE " + row[1], x.card(0, 6, 1000, 4, 0, 12), it);
        }
        CHECK.due("nothing, then 1000 by 2", hundred(99, 1, 0).card(0, 6, 1000, 4, 0, 12), 500);
        CHECK.due("nothing, then 1000 by 3", hundred(99, 2, 0).card(0, 6, 1000, 4, 0, 12), 333);
        CHECK.due("nothing, then 1000 by 101", hundred(99, 100, 0).card(0, 6, 1000, 4, 0, 12), 9);
        CHECK.due("nothing, then nothing", hundred(100, 1, 0).card(0, 6, 1000, 4, 0, 12), 0);
    }

    private static void choked() {
        int[] choked = {0, 0, 0, 0, 0, 0, 0, 0, 0, 0, 20, 50, 100};
        for (int sickness : new int[] {0, 10, 11, 12}) {
            for (int choke : new int[] {1, 10, 100}) {
                ValveShop x = hundred(99, choke, sickness);
                CHECK.due("SICKNESS " + sickness + ", CHOKE " + choke, x.card(0, 6, 2000, 4, 0, 12), 2000 / (1 + choke + choked[sickness]));
            }
        }
        for (int sickness = 7; sickness <= 9; sickness++) {
            ValveShop x = hundred(99, 10, sickness);
            int it = stepped(x, 12, x.card(0, 6, 2000, 4, 0, 11));
            it += (2000 - it) / 11;
            it += (2000 - it) * new int[] {5, 10, 20}[sickness - 7] / 200;
            CHECK.due("SICKNESS " + sickness + " is not CHOKED", x.card(0, 6, 2000, 4, 0, 12), it);
        }
        // LATE by SICKNESSES 1 to 6: STEAM is open at another PLACE, by as much
        int[] late = {-1, -2, -3, 1, 2, 3};
        for (int sickness = 1; sickness <= 6; sickness++) {
            CHECK.due("SICKNESS " + sickness + " is not CHOKED",
                hundred(99, 10, sickness).card(0, 6, 2000, 4, 0, 12 - late[sickness - 1]), 2000 / 11);
        }
    }

    private static void exhaust() {
        int[][] due = {
            // INLAP, DRAIN, open at 36
            {50, 1, 50}, {50, 100, 50}, {49, 7, 51}, {0, 1, 100}, {0, 2, 100}, {0, 100, 100}};
        for (int[] row : due) {
            ValveShop x = Shops.with(0, 100, 0, 0, 60, row[0], 100, 100, 1, row[1], 300);
            CHECK.due("open at 36 by INLAP " + row[0], x.open(0, 6, 0, 36, 1), row[2]);
            int it = stepped(x, 36, x.card(0, 6, 1000, 4, 0, 35));
            it += (300 - it) * row[2] / (row[2] + row[1]);
            CHECK.due("PRESSURE at 36 by INLAP " + row[0] + ", DRAIN " + row[1], x.card(0, 6, 1000, 4, 0, 36), it);
        }
        // open at 36 alone, by 1: what AIR presses in is more than what is there
        ValveShop x = Shops.with(0, 51, 0, 0, 100, 50, 1, 200, 1, 1, 500);
        int it = stepped(x, 36, x.card(0, 6, 1000, 4, 0, 35));
        CHECK.due("open at 36", x.open(0, 6, 0, 36, 1), 1);
        CHECK.due("by half of what is between", x.card(0, 6, 1000, 4, 0, 36), it + (500 - it) / 2);
        x.adjust(0, DRAIN, 100);
        it = stepped(x, 36, x.card(0, 6, 1000, 4, 0, 35));
        CHECK.due("by a hundredth and less", x.card(0, 6, 1000, 4, 0, 36), it + (500 - it) / 101);
    }

    private static void leak() {
        int[] leaks = {0, 0, 0, 0, 0, 0, 0, 5, 10, 20, 0, 0, 0};
        for (int sickness = 0; sickness <= 12; sickness++) {
            for (int end = 0; end < 2; end++) {
                ValveShop x = sick(sickness, 5, 10, 0, 0, 100, 50, 1, 40, 1, 1, 500);
                int[] row = card(x, 3, 1003, 3, end);
                for (int k = 1; k < 48; k++) {
                    int it = row[k - 1] * room(x, end, k - 1) / room(x, end, k);
                    it += (752 - it) * leaks[sickness] / 200;
                    CHECK.due("SICKNESS " + sickness + ", END " + end + " at " + k, row[k], it);
                }
            }
        }
    }

    private static void inThisOrder() {
        // STEAM and EXHAUST are open together at the head, and there is a LEAK
        ValveShop x = sick(9, 0, 100, 0, 5, 0, -20, 100, 60, 7, 3, 200);
        int both = 0;
        int[] row = card(x, 6, 1500, 4, 0);
        for (int k = 1; k < 48; k++) {
            int it = row[k - 1] * room(x, 0, k - 1) / room(x, 0, k);
            int o = x.open(0, 6, 0, k, 0);
            int out = x.open(0, 6, 0, k, 1);
            both += o > 0 && out > 0 ? 1 : 0;
            it += (1500 - it) * o / (o + 7);
            it += (200 - it) * out / (out + 3);
            it += (1500 - it) * 20 / 200;
            CHECK.due("PRESSURE at " + k, row[k], it);
        }
        CHECK.holds("both are open at some PLACES", both > 0);
    }

    private static void placesOfCard() {
        ValveShop x = Shops.plain();
        int[] row = card(x, 6, 1000, 4, 0);
        int[][] due = {{0, 211}, {3, 813}, {24, 190}, {47, 196}};
        for (int[] pair : due) {
            CHECK.due("PLACE " + pair[0], row[pair[0]], pair[1]);
        }
        for (int k : new int[] {-1, 48, 143, Integer.MIN_VALUE, Integer.MAX_VALUE}) {
            CHECK.due("PLACE " + k, x.card(0, 6, 1000, 4, 0, k), Check.BAD);
        }
    }

    private static void lookIs(int what, int due, int sickness, int[] numbers, int notch, int boiler, int regulator, int end) {
        CHECK.due("look", sick(sickness, numbers).look(0, notch, boiler, regulator, end, what), due);
    }

    private static void mean() {
        int[][] engines = {{4, 109, 11, 7, 51, 9, 66, 89, 13, 47, 261}, {0, 189, 2, 4, 55, -16, 87, 195, 18, 91, 328},
            {0, 103, 4, 3, 39, -18, 88, 125, 13, 14, 156}, {12, 97, 4, 18, 64, 21, 96, 122, 97, 92, 445}};
        int[][] rest = {
            // SICKNESS, NOTCH, BOILER, REGULATOR, END, all PRESSURES together
            {3, 3, 143, 4, 0, 11519}, {0, -6, 1689, 3, 0, 36623}, {12, 4, 1690, 1, 1, 10032}, {8, 6, 1985, 3, 1, 41472}};
        for (int i = 0; i < engines.length; i++) {
            int[] r = rest[i];
            int sum = 0;
            for (int p : card(sick(r[0], engines[i]), r[1], r[2], r[3], r[4])) {
                sum += p;
            }
            CHECK.due("all added", sum, r[5]);
            CHECK.due("one less than a whole, or none", (sum + 1) % 48 * (sum % 48), 0);
            lookIs(0, r[5] / 48, r[0], engines[i], r[1], r[2], r[3], r[4]);
        }
        lookIs(0, 0, 0, Shops.SHUT, 6, 2000, 4, 0);
    }

    private static void peak() {
        lookIs(1, 8221, 0, new int[] {16, 105, 8, 8, 64, 14, 5, 27, 47, 60, 477}, 0, 1826, 2, 0);
        lookIs(1, 1443, 0, new int[] {14, 116, 11, 13, 97, 26, 76, 110, 47, 58, 82}, 5, 1512, 4, 0);
        lookIs(1, 142, 9, new int[] {0, 104, 5, 6, 91, 12, 45, 128, 2, 72, 176}, -6, 48, 3, 1);
        CHECK.due("it is that at 0", sick(9, 0, 104, 5, 6, 91, 12, 45, 128, 2, 72, 176).card(0, -6, 48, 3, 1, 0), 142);
        lookIs(1, 1463, 2, new int[] {20, 145, 3, 11, 35, 43, 65, 151, 46, 85, 452}, -1, 1162, 4, 0);
        CHECK.due("it is that at 47", sick(2, 20, 145, 3, 11, 35, 43, 65, 151, 46, 85, 452).card(0, -1, 1162, 4, 0, 47), 1463);
        lookIs(1, 275, 1, new int[] {0, 160, 0, 2, 33, 3, 6, 165, 91, 50, 38}, 5, 725, 3, 1);
        lookIs(1, 0, 0, Shops.SHUT, 6, 2000, 4, 1);
        // at PLACES 1, 1, 46, 46, 24, 24
        lookIs(1, 1298, 0, new int[] {5, 116, 9, -9, 91, -4, 81, 176, 5, 35, 251}, 3, 1746, 3, 0);
        lookIs(1, 791, 2, new int[] {5, 82, 0, -2, 10, -11, 34, 132, 7, 12, 411}, 5, 1586, 2, 1);
        lookIs(1, 2917, 1, new int[] {11, 81, 11, -11, 61, -15, 10, 52, 12, 47, 394}, 4, 1064, 1, 0);
        lookIs(1, 1526, 0, new int[] {18, 183, 1, -19, 13, 4, 35, 166, 32, 10, 22}, 6, 1568, 4, 1);
        lookIs(1, 276, 8, new int[] {18, 191, 4, 19, 63, 46, 73, 131, 58, 74, 308}, -5, 106, 1, 0);
        lookIs(1, 10514, 12, new int[] {8, 25, 10, 14, 82, 39, 43, 27, 65, 62, 307}, 5, 1707, 1, 1);
    }

    /** Of which PLACES k from 0 to 24 the line going out is under the one coming back. */
    private static int under(int[] row) {
        int places = 0;
        for (int k = 1; k <= 24; k++) {
            places |= row[k] < row[(48 - k) % 48] ? 1 << k : 0;
        }
        return places;
    }

    private static void loopFromOne() {
        int[] numbers = {4, 184, 2, -1, 72, 31, 47, 163, 64, 9, 387};
        CHECK.due("at 1 alone", under(card(Shops.with(numbers), 4, 1789, 4, 0)), 1 << 1);
        lookIs(2, 1, 0, numbers, 4, 1789, 4, 0);
        int[] other = {6, 192, 1, 18, 52, 20, 16, 86, 67, 48, 265};
        CHECK.due("at 1 alone at END 1", under(card(Shops.with(other), -2, 503, 2, 1)), 1 << 1);
        lookIs(2, 1, 0, other, -2, 503, 2, 1);
    }

    private static void loopToLast() {
        int[] numbers = {13, 106, 0, -6, 16, -19, 32, 196, 55, 35, 416};
        CHECK.due("at 23 alone", under(card(Shops.with(numbers), -5, 958, 1, 0)), 1 << 23);
        lookIs(2, 1, 0, numbers, -5, 958, 1, 0);
        int[] other = {17, 145, 2, 19, 13, -8, 14, 129, 16, 9, 251};
        CHECK.due("at 23 alone at END 1", under(card(sick(12, other), 6, 1304, 1, 1)), 1 << 23);
        lookIs(2, 1, 12, other, 6, 1304, 1, 1);
    }

    private static void loopOfAll() {
        lookIs(2, 23, 0, new int[] {16, 105, 8, 8, 64, 14, 5, 27, 47, 60, 477}, 0, 1826, 2, 0);
        lookIs(2, 23, 0, new int[] {13, 102, 4, -15, 43, 4, 32, 81, 94, 79, 23}, 4, 1572, 1, 1);
    }

    private static void loopOfAlike() {
        lookIs(2, 0, 0, Shops.SHUT, 6, 2000, 4, 0);
        lookIs(2, 0, 0, Shops.SHUT, 6, 2000, 4, 1);
        int[] numbers = {8, 175, 1, 11, 61, 10, 20, 164, 39, 30, 103};
        int[] row = card(Shops.with(numbers), 3, 1261, 4, 0);
        int alike = 0;
        for (int k = 1; k < 24; k++) {
            alike += row[k] == row[48 - k] ? 1 : 0;
        }
        CHECK.holds("some are alike", alike > 0);
        CHECK.due("at 2 and 3", under(row), 1 << 2 | 1 << 3);
        lookIs(2, 2, 0, numbers, 3, 1261, 4, 0);
    }

    private static void workIs(int what, int due, int sickness, int[] numbers, int notch, int boiler, int regulator) {
        CHECK.due("work", sick(sickness, numbers).work(0, notch, boiler, regulator, what), due);
    }

    private static void workCut() {
        // together 629999, 379999, -849999, -5999
        workIs(0, 314, 12, new int[] {0, 197, 11, 20, 52, 14, 78, 112, 83, 26, 4}, -2, 1227, 4);
        workIs(0, 189, 0, new int[] {16, 164, 7, -20, 50, 33, 42, 71, 9, 26, 173}, 4, 1740, 1);
        workIs(0, -424, 4, new int[] {0, 57, 3, 14, 15, 5, 74, 75, 15, 9, 469}, -3, 546, 4);
        workIs(0, -2, 6, new int[] {10, 34, 0, -2, 14, 11, 25, 93, 62, 83, 187}, 2, 843, 1);
        // together 1234000, -250000, 297, -726
        workIs(0, 617, 0, new int[] {7, 105, 4, -7, 21, 37, 7, 189, 67, 8, 318}, 4, 1824, 3);
        workIs(0, -125, 0, new int[] {0, 86, 0, -4, 54, 38, 29, 141, 64, 59, 79}, -6, 620, 1);
        workIs(0, 0, 10, new int[] {5, 72, 0, -9, 57, 19, 91, 123, 63, 44, 103}, -2, 893, 3);
        workIs(0, 0, 1, new int[] {16, 23, 10, 14, 31, 32, 67, 196, 100, 81, 45}, 6, 1000, 4);
    }

    private static void workOfAllPlaces() {
        int[][] engines = {{16, 105, 8, 8, 64, 14, 5, 27, 47, 60, 477}, {14, 116, 11, 13, 97, 26, 76, 110, 47, 58, 82},
            {18, 177, 0, -3, 75, 9, 88, 47, 97, 67, 69}};
        // NOTCH, BOILER, REGULATOR, WORK
        int[][] asked = {{0, 1826, 2, -1083}, {5, 1512, 4, 412}, {-3, 1932, 1, -499}};
        for (int i = 0; i < engines.length; i++) {
            int[] a = asked[i];
            long sum = 0;
            long round = 0;
            for (int end = 0; end < 2; end++) {
                ValveShop x = Shops.with(engines[i]);
                int[] row = card(x, a[0], a[1], a[2], end);
                for (int k = 0; k < 48; k++) {
                    int moved = x.piston(0, k + 1) - x.piston(0, k);
                    long part = (long) (row[k] + row[(k + 1) % 48]) * (end == 0 ? moved : -moved);
                    sum += part;
                    round += k == 47 ? part : 0;
                }
            }
            CHECK.holds("47 going on to 0 is some of it", Math.abs(round) >= 2000);
            CHECK.due("by both CARDS", sum / 2000, a[3]);
            workIs(0, a[3], 0, engines[i], a[0], a[1], a[2]);
        }
    }

    private static void drinkCut() {
        // together 29999, 615999; 380000, 66000; 978385
        workIs(1, 29, 0, new int[] {10, 101, 6, -14, 78, -7, 83, 181, 89, 54, 12}, -3, 1614, 1);
        workIs(1, 615, 7, new int[] {0, 60, 3, 2, 20, -11, 84, 45, 5, 39, 287}, -3, 1986, 3);
        workIs(1, 380, 10, new int[] {0, 88, 8, 4, 32, 33, 47, 27, 78, 89, 16}, 3, 1231, 3);
        workIs(1, 66, 8, new int[] {0, 143, 11, -4, 58, 26, 49, 141, 48, 29, 396}, -4, 530, 2);
        workIs(1, 978, 0, new int[] {7, 105, 4, -7, 21, 37, 7, 189, 67, 8, 318}, 4, 1824, 3);
        workIs(1, 0, 0, Shops.SHUT, 6, 2000, 4);
    }

    private static void drinkMoreThanNothing() {
        // where it is pressed above the BOILER, STEAM goes back: 187959, 851022, 25176 less than nothing
        workIs(1, 823, 12, new int[] {0, 197, 11, 20, 52, 14, 78, 112, 83, 26, 4}, -2, 1227, 4);
        workIs(1, 4, 4, new int[] {0, 57, 3, 14, 15, 5, 74, 75, 15, 9, 469}, -3, 546, 4);
        workIs(1, 252, 1, new int[] {6, 118, 11, -19, 67, 8, 98, 132, 64, 71, 119}, 6, 941, 3);
        // nothing, or just 1 at a time: 32200 together
        workIs(1, 32, 0, new int[] {0, 100, 0, 0, 0, 50, 1, 200, 1, 1, 0}, 6, 2, 4);
        workIs(1, 0, 0, new int[] {0, 100, 0, 0, 0, 50, 1, 200, 1, 1, 0}, 6, 1, 4);
        ValveShop x = Shops.plain();
        for (int notch = -6; notch <= 6; notch++) {
            CHECK.due("by REGULATOR 0 in NOTCH " + notch, x.work(0, notch, 2000, 0, 1), 0);
            CHECK.due("by BOILER 0 in NOTCH " + notch, x.work(0, notch, 0, 4, 1), 0);
        }
    }

    private static void drinkOfThirdTurn() {
        // 48502; by the second turn 63149, by the fourth 36612; 3136 of it at PLACE 0, 1000 at PLACE 47
        workIs(1, 48, 1, new int[] {16, 23, 10, 14, 31, 32, 67, 196, 100, 81, 45}, 6, 1000, 4);
        // 175684 and 57371; 4400 of it at PLACE 0
        workIs(1, 233, 0, new int[] {14, 116, 11, 13, 97, 26, 76, 110, 47, 58, 82}, 5, 1512, 4);
    }

    private static void drinkOfBothEnds() {
        // by HANG 20 the head alone, by HANG -20 END 1 alone
        int head = Shops.with(0, 60, 0, 20, 70, 10, 100, 100, 10, 10, 0).work(0, 6, 2000, 4, 1);
        int other = Shops.with(0, 60, 0, -20, 70, 10, 100, 100, 10, 10, 0).work(0, 6, 2000, 4, 1);
        CHECK.due("the head", head, 1411);
        CHECK.due("END 1", other, 1413);
        CHECK.due("both", Shops.with(0, 80, 0, 0, 70, 10, 100, 100, 10, 10, 0).work(0, 6, 2000, 4, 1), 2695);
        CHECK.due("neither", Shops.with(0, 60, 0, 0, 70, 10, 100, 100, 10, 10, 0).work(0, 6, 2000, 4, 1), 0);
    }

    private static void nothingChanges() {
        ValveShop x = Full.shop();
        for (int end = 0; end < 2; end++) {
            x.card(5, -6, 2000, 4, end, 47);
            x.look(0, 6, 0, 0, end, 2);
            x.work(3, 1, 900, 3, end);
        }
        CHECK.due("status()", x.status(), 0);
        x.as(0, 4);
        CHECK.dueRow("all", Full.all(x), Full.all(Full.shop()));
    }
}
