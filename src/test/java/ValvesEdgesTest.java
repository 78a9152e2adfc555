/** Promises 12 to 18: each sentence that names an edge. */
public final class ValvesEdgesTest {
    private static final Check CHECK = new Check("edges of valves");
    private static final int ROD = 0, THROW = 1, ADVANCE = 2, HANG = 3, LAP = 4, INLAP = 5, PORT = 6;

    private ValvesEdgesTest() {
    }

    public static void main(String[] args) {
        CHECK.sentence("12, 13, 14: PLACES are counted round: 48 is 0, -1 is 47", ValvesEdgesTest::countedRound);
        CHECK.sentence("12, 13, 14: k is -1000 to 1000", ValvesEdgesTest::farRound);
        CHECK.sentence("12: C(k) is c(k) for k to 12, -c(24 - k) for 13 to 24, C(48 - k) beyond", ValvesEdgesTest::cosines);
        CHECK.sentence("12: with a ROD, of 4 to 20; without one, 0", ValvesEdgesTest::rods);
        CHECK.sentence("12: each cut by itself", ValvesEdgesTest::rodCutByItself);
        CHECK.sentence("13: in NOTCH -6 the second eccentric alone, in NOTCH 6 the first", ValvesEdgesTest::eccentrics);
        CHECK.sentence("13: cut towards 0", ValvesEdgesTest::cutTowardsZero);
        CHECK.sentence("13: HANG n by 6, cut by itself", ValvesEdgesTest::hanging);
        CHECK.sentence("13: LATE is -1, -2, -3; 1, 2, 3; 0 of all others", ValvesEdgesTest::late);
        CHECK.sentence("14: STEAM is open by V - LAP, 0 at least", ValvesEdgesTest::steamFromNothing);
        CHECK.sentence("14: STEAM is open by PORT at most", ValvesEdgesTest::steamToPort);
        CHECK.sentence("14: EXHAUST is open by -V - INLAP, 0 at least", ValvesEdgesTest::exhaustFromNothing);
        CHECK.sentence("14: EXHAUST is open by PORT at most", ValvesEdgesTest::exhaustToPort);
        CHECK.sentence("14: END 0 is the head, END 1 the other one", ValvesEdgesTest::ends);
        CHECK.sentence("15: ADMITS at 0: open there, and not at 47", ValvesEdgesTest::admitsAtZero);
        CHECK.sentence("15: ADMITS at 47", ValvesEdgesTest::admitsAtTheLast);
        CHECK.sentence("15: CUTS at 0 and at 47", ValvesEdgesTest::cutsAtTheEnds);
        CHECK.sentence("15: RELEASES at 0 and at 47, SHUTS at 0 and at 47", ValvesEdgesTest::releasesAtTheEnds);
        CHECK.sentence("15: NONE: it is never open", ValvesEdgesTest::neverOpen);
        CHECK.sentence("15: NONE: it is always open", ValvesEdgesTest::alwaysOpen);
        CHECK.sentence("15: open by 1 is open, by 0 is not", ValvesEdgesTest::openByOne);
        CHECK.sentence("16: UNLIKE over NOTCHES 1 to 6", ValvesEdgesTest::unlikeNotches);
        CHECK.sentence("16: 24 if one has none, or both", ValvesEdgesTest::unlikeOfNone);
        CHECK.sentence("16: the nearer way round", ValvesEdgesTest::nearerWay);
        CHECK.sentence("16: how many PLACES it is from 24 behind, either way", ValvesEdgesTest::eitherWay);
        CHECK.sentence("16: UNLIKE by its SICKNESS, as it is", ValvesEdgesTest::unlikeOfSick);
        CHECK.sentence("16: LEAD: STEAM open at END 0 at PLACE 0 in NOTCH 6", ValvesEdgesTest::lead);
        CHECK.sentence("17: of several the least ADVANCE, then the least HANG", ValvesEdgesTest::settingOfSeveral);
        CHECK.sentence("17: ADVANCES 0 to 11, HANGS from -20 on", ValvesEdgesTest::settingEnds);
        CHECK.sentence("17: by its SICKNESS, whatever its own ADVANCE and HANG are", ValvesEdgesTest::settingOfItsOwn);
        CHECK.sentence("17: nothing changes", ValvesEdgesTest::settingChangesNothing);
        CHECK.sentence("18: it gets ADVANCE and HANG, and nothing else changes", ValvesEdgesTest::tune);
        CHECK.sentence("18: how UNLIKE it was, ahead of it", ValvesEdgesTest::tuneTwice);
        CHECK.end();
    }

    private static ValveShop of(int throwOf, int advance, int hang, int lap, int inlap, int port) {
        return Shops.with(0, throwOf, advance, hang, lap, inlap, port, 50, 10, 10, 100);
    }

    private static void countedRound() {
        ValveShop x = Shops.with(7, 193, 3, 11, 20, 5, 100, 50, 10, 10, 100);
        int[][] same = {{48, 0}, {-1, 47}, {49, 1}, {47, -1}, {96, 0}, {95, 47}, {-48, 0}, {-49, 47}, {-47, 1}, {1000, 40}, {-1000, 8},
            {999, 39}, {-999, 9}, {960, 0}, {959, 47}, {-960, 0}, {-961, 47}};
        for (int[] pair : same) {
            String told = pair[0] + " is " + pair[1];
            CHECK.due("piston: " + told, x.piston(0, pair[0]), x.piston(0, pair[1]));
            CHECK.due("valve: " + told, x.valve(0, 5, pair[0]), x.valve(0, 5, pair[1]));
            CHECK.due("STEAM: " + told, x.open(0, 5, 0, pair[0], 0), x.open(0, 5, 0, pair[1], 0));
            CHECK.due("EXHAUST: " + told, x.open(0, 5, 0, pair[0], 1), x.open(0, 5, 0, pair[1], 1));
        }
        ValveShop y = of(193, 0, 0, 0, 0, 100);
        int[] places = {0, 1, 2, 3};
        int[] values = {0, 25, 49, 73};
        for (int i = 0; i < 4; i++) {
            CHECK.due("V(" + places[i] + ")", y.valve(0, 6, places[i]), values[i]);
            CHECK.due("V(" + places[i] + " + 48)", y.valve(0, 6, places[i] + 48), values[i]);
            CHECK.due("V(-" + places[i] + ")", y.valve(0, 6, -places[i]), -values[i]);
            CHECK.due("V(48 - " + places[i] + ")", y.valve(0, 6, 48 - places[i]), -values[i]);
        }
    }

    private static void farRound() {
        ValveShop x = Shops.plain();
        int[] far = {-1001, 1001, Integer.MIN_VALUE, Integer.MAX_VALUE};
        for (int k : far) {
            CHECK.due("piston(0, " + k + ")", x.piston(0, k), Check.BAD);
            CHECK.due("valve(0, 6, " + k + ")", x.valve(0, 6, k), Check.BAD);
            CHECK.due("open(0, 6, 0, " + k + ", 0)", x.open(0, 6, 0, k, 0), Check.BAD);
        }
        CHECK.due("piston(0, 1000)", x.piston(0, 1000), 250);
        CHECK.due("piston(0, -1000)", x.piston(0, -1000), 250);
        CHECK.due("valve(0, 6, 1000)", x.valve(0, 6, 1000), -70);
        CHECK.due("valve(0, 6, -1000)", x.valve(0, 6, -1000), 96);
        CHECK.due("open(0, 6, 1, 1000, 0)", x.open(0, 6, 1, 1000, 0), 30);
        CHECK.due("open(0, 6, 0, -1000, 0)", x.open(0, 6, 0, -1000, 0), 40);
    }

    private static void cosines() {
        int[] c = {10000, 9914, 9659, 9239, 8660, 7934, 7071, 6088, 5000, 3827, 2588, 1305, 0};
        int[] turn = new int[48];
        for (int k = 0; k <= 12; k++) {
            turn[k] = c[k];
            turn[24 - k] = -c[k];
            turn[(48 - k) % 48] = c[k];
            turn[24 + k] = -c[k];
        }
        ValveShop x = of(200, 0, 0, 0, 0, 100);
        for (int k = 0; k < 48; k++) {
            // S(k) is C(k - 12), so C(k) is S(k + 12)
            CHECK.due("C(" + k + ") by 50", x.valve(0, 6, k + 12), turn[k] / 50);
            CHECK.due("X(" + k + ")", x.piston(0, k), (10000 - turn[k]) / 20);
        }
        for (int throwOf = 10; throwOf <= 200; throwOf++) {
            for (int notch = 3; notch <= 6; notch++) {
                ValveShop y = of(throwOf, throwOf % 12, 0, 0, 0, 100);
                for (int k = 0; k < 48; k++) {
                    int first = turn[(k + throwOf % 12 + 36) % 48];
                    int second = turn[(throwOf % 12 - k + 84) % 48];
                    CHECK.due("THROW " + throwOf + ", NOTCH " + notch + ", V(" + k + ")", y.valve(0, notch, k),
                        throwOf * ((6 + notch) * first + (6 - notch) * second) / 120000);
                }
            }
        }
    }

    private static void rods() {
        ValveShop x = Shops.plain();
        int[][] due = {
            // ROD, X(0), X(6), X(12), X(18), X(24), X(36)
            {0, 0, 146, 500, 853, 1000, 500}, {4, 0, 177, 562, 884, 1000, 562}, {5, 0, 170, 550, 877, 1000, 550},
            {6, 0, 166, 541, 873, 1000, 541}, {19, 0, 152, 513, 859, 1000, 513}, {20, 0, 152, 512, 859, 1000, 512}};
        for (int[] row : due) {
            x.adjust(0, ROD, row[0]);
            int[] places = {0, 6, 12, 18, 24, 36};
            for (int i = 0; i < 6; i++) {
                CHECK.due("ROD " + row[0] + ", X(" + places[i] + ")", x.piston(0, places[i]), row[i + 1]);
            }
        }
    }

    private static void rodCutByItself() {
        ValveShop x = Shops.plain();
        x.adjust(0, ROD, 7);
        // 17.05 and 2.39; 103.3 and 13.2; 195.6 and 22.48 (together 218.08); 565.25 and 35.1; 933 and 8.9
        int[][] due = {{2, 17 + 2}, {5, 103 + 13}, {7, 195 + 22}, {13, 565 + 35}, {20, 933 + 8}};
        for (int[] pair : due) {
            CHECK.due("X(" + pair[0] + ")", x.piston(0, pair[0]), pair[1]);
        }
        x.adjust(0, ROD, 16);
        // 434.75 and 15.36: together 450.1
        CHECK.due("X(11)", x.piston(0, 11), 434 + 15);
    }

    private static void eccentrics() {
        ValveShop x = of(100, 3, 0, 0, 0, 100);
        // S(3) is 3827, S(8) 8660, S(-2) -2588, S(13) 9914
        CHECK.due("S(k + ADVANCE) in NOTCH 6", x.valve(0, 6, 5), 86);
        CHECK.due("S(ADVANCE - k) in NOTCH -6", x.valve(0, -6, 5), -25);
        CHECK.due("11 to 1 in NOTCH 5", x.valve(0, 5, 5), (11 * 8660 - 2588) / 1200);
        CHECK.due("1 to 11 in NOTCH -5", x.valve(0, -5, 5), (8660 - 11 * 2588) / 1200);
        CHECK.due("6 to 6 in NOTCH 0", x.valve(0, 0, 5), (6 * 8660 - 6 * 2588) / 1200);
        CHECK.due("7 to 5 in NOTCH 1", x.valve(0, 1, 5), (7 * 8660 - 5 * 2588) / 1200);
        CHECK.due("5 to 7 in NOTCH -1", x.valve(0, -1, 5), (5 * 8660 - 7 * 2588) / 1200);
        CHECK.due("NOTCH 7", x.valve(0, 7, 5), Check.BAD);
        CHECK.due("NOTCH -7", x.valve(0, -7, 5), Check.BAD);
    }

    private static void cutTowardsZero() {
        ValveShop x = of(10, 0, 0, 0, 0, 100);
        // 1.305, 2.588, .. 10
        int[] due = {0, 1, 2, 3, 5, 6, 7, 7, 8, 9, 9, 9, 10};
        for (int k = 0; k <= 12; k++) {
            CHECK.due("V(" + k + ")", x.valve(0, 6, k), due[k]);
            CHECK.due("V(-" + k + ")", x.valve(0, 6, -k), -due[k]);
        }
        ValveShop y = of(10, 1, 0, 0, 0, 100);
        // (11 S(2) + 1 S(0)) by 12000 is 2.37; by NOTCH 3 (9 S(-1) + 3 S(3)) is -0.02
        CHECK.due("2.37", y.valve(0, 5, 1), 2);
        CHECK.due("-0.02", y.valve(0, 3, -2), 0);
        CHECK.due("-0.94", of(10, 0, 0, 0, 0, 100).valve(0, 4, -1) , 0);
    }

    private static void hanging() {
        int[] notches = {-6, -5, -4, -3, -2, -1, 0, 1, 2, 3, 4, 5, 6};
        int[][] due = {
            {-20, 20, 16, 13, 10, 6, 3, 0, -3, -6, -10, -13, -16, -20}, {20, -20, -16, -13, -10, -6, -3, 0, 3, 6, 10, 13, 16, 20},
            {5, -5, -4, -3, -2, -1, 0, 0, 0, 1, 2, 3, 4, 5}, {-5, 5, 4, 3, 2, 1, 0, 0, 0, -1, -2, -3, -4, -5},
            {1, -1, 0, 0, 0, 0, 0, 0, 0, 0, 0, 0, 0, 1}, {-1, 1, 0, 0, 0, 0, 0, 0, 0, 0, 0, 0, 0, -1}};
        for (int[] row : due) {
            ValveShop x = of(10, 0, row[0], 0, 0, 100);
            for (int i = 0; i < notches.length; i++) {
                CHECK.due("HANG " + row[0] + " in NOTCH " + notches[i], x.valve(0, notches[i], 0), row[i + 1]);
            }
        }
        // -1.305 and -3.33: together -4.6
        CHECK.due("cut by itself", of(10, 0, -4, 0, 0, 100).valve(0, 5, -1), (11 * -1305 + 1305) / 12000 - 3);
        // 1.305 and -0.83: together 0.47
        CHECK.due("cut by itself, against each other", of(10, 0, -1, 0, 0, 100).valve(0, 5, 1), 1);
    }

    private static void late() {
        int[] late = {0, -1, -2, -3, 1, 2, 3, 0, 0, 0, 0, 0, 0};
        int[] sines = {-3827, -2588, -1305, 0, 1305, 2588, 3827, 5000};
        ValveShop x = of(100, 0, 0, 0, 0, 100);
        for (int sickness = 0; sickness <= 12; sickness++) {
            x.sicken(0, sickness);
            CHECK.due("SICKNESS " + sickness + " at 0", x.valve(0, 6, 0), sines[3 + late[sickness]] / 100);
            CHECK.due("SICKNESS " + sickness + " at 1", x.valve(0, 6, 1), sines[4 + late[sickness]] / 100);
            CHECK.due("the second eccentric is not LATE", x.valve(0, -6, -3), 38);
            CHECK.due("both", x.valve(0, 0, 0), sines[3 + late[sickness]] * 6 / 1200);
        }
    }

    /** V(12) is 100, V(36) is -100 in NOTCH 6, V(0) and V(24) are 0. */
    private static ValveShop hundred(int lap, int inlap, int port) {
        return of(100, 0, 0, lap, inlap, port);
    }

    private static void steamFromNothing() {
        int[][] due = {{100, 0}, {99, 1}, {98, 2}, {0, 100}, {1, 99}};
        for (int[] pair : due) {
            CHECK.due("LAP " + pair[0], hundred(pair[0], 0, 100).open(0, 6, 0, 12, 0), pair[1]);
            CHECK.due("LAP " + pair[0] + " at END 1", hundred(pair[0], 0, 100).open(0, 6, 1, 36, 0), pair[1]);
        }
        CHECK.due("V 0 and LAP 0", hundred(0, 0, 100).open(0, 6, 0, 0, 0), 0);
        CHECK.due("V 0 and LAP 0 at END 1", hundred(0, 0, 100).open(0, 6, 1, 0, 0), 0);
        CHECK.due("V 95 and LAP 96", hundred(96, 0, 100).open(0, 6, 0, 9, 0), 0);
        CHECK.due("V -100", hundred(0, 0, 100).open(0, 6, 0, 36, 0), 0);
    }

    private static void steamToPort() {
        int[][] due = {
            // LAP, PORT, STEAM
            {60, 39, 39}, {60, 40, 40}, {60, 41, 40}, {59, 40, 40}, {61, 40, 39}, {0, 100, 100}, {0, 1, 1}, {99, 1, 1}, {100, 1, 0}};
        for (int[] row : due) {
            CHECK.due("LAP " + row[0] + ", PORT " + row[1], hundred(row[0], 0, row[1]).open(0, 6, 0, 12, 0), row[2]);
            CHECK.due("LAP " + row[0] + ", PORT " + row[1] + " at END 1", hundred(row[0], 0, row[1]).open(0, 6, 1, 36, 0), row[2]);
        }
    }

    private static void exhaustFromNothing() {
        int[][] due = {
            // INLAP, by V 0, by V at 1 (13), by V at -1 (-13)
            {0, 0, 0, 13}, {1, 0, 0, 12}, {-1, 1, 0, 14}, {12, 0, 0, 1}, {13, 0, 0, 0}, {-13, 13, 0, 26}, {-14, 14, 1, 27}, {-20, 20, 7, 33}};
        for (int[] row : due) {
            ValveShop x = hundred(0, row[0], 100);
            String told = "INLAP " + row[0];
            CHECK.due(told + ", V 0", x.open(0, 6, 0, 0, 1), row[1]);
            CHECK.due(told + ", V 0 at END 1", x.open(0, 6, 1, 0, 1), row[1]);
            CHECK.due(told + ", V 13", x.open(0, 6, 0, 1, 1), row[2]);
            CHECK.due(told + ", V -13 at END 1", x.open(0, 6, 1, -1, 1), row[2]);
            CHECK.due(told + ", V -13", x.open(0, 6, 0, -1, 1), row[3]);
            CHECK.due(told + ", V 13 at END 1", x.open(0, 6, 1, 1, 1), row[3]);
        }
    }

    private static void exhaustToPort() {
        int[][] due = {{50, 49, 49}, {50, 50, 50}, {50, 51, 50}, {49, 50, 50}, {-20, 100, 100}, {0, 100, 100}, {1, 100, 99}, {0, 1, 1}};
        for (int[] row : due) {
            CHECK.due("INLAP " + row[0] + ", PORT " + row[1], hundred(0, row[0], row[1]).open(0, 6, 0, 36, 1), row[2]);
            CHECK.due("INLAP " + row[0] + ", PORT " + row[1] + " at END 1", hundred(0, row[0], row[1]).open(0, 6, 1, 12, 1), row[2]);
        }
    }

    private static void ends() {
        ValveShop x = hundred(30, 10, 100);
        int[] head = {x.open(0, 6, 0, 12, 0), x.open(0, 6, 0, 12, 1), x.open(0, 6, 0, 36, 0), x.open(0, 6, 0, 36, 1)};
        int[] other = {x.open(0, 6, 1, 12, 0), x.open(0, 6, 1, 12, 1), x.open(0, 6, 1, 36, 0), x.open(0, 6, 1, 36, 1)};
        CHECK.dueRow("the head", head, 70, 0, 0, 90);
        CHECK.dueRow("the other one", other, 0, 90, 70, 0);
    }

    /** V is 25 at 0, 38 at 1, 13 at 47 and 0 at 46. */
    private static ValveShop ahead(int lap, int inlap) {
        return of(100, 2, 0, lap, inlap, 40);
    }

    private static void admitsAtZero() {
        int[][] due = {{12, 47}, {13, 0}, {24, 0}, {25, 1}, {0, 47}, {37, 1}, {38, 2}};
        for (int[] pair : due) {
            CHECK.due("LAP " + pair[0], ahead(pair[0], 0).event(0, 6, 0, 0), pair[1]);
            CHECK.due("LAP " + pair[0] + " at END 1", ahead(pair[0], 0).event(0, 6, 1, 0), (pair[1] + 24) % 48);
        }
    }

    private static void admitsAtTheLast() {
        // with HANG 1 V is 1 at 46
        CHECK.due("open at 46", of(100, 2, 1, 0, 0, 40).event(0, 6, 0, 0), 46);
        CHECK.due("open at 47", of(100, 2, 1, 1, 0, 40).event(0, 6, 0, 0), 47);
        CHECK.due("not open at 47", of(100, 2, 1, 14, 0, 40).event(0, 6, 0, 0), 0);
    }

    private static void cutsAtTheEnds() {
        // at END 1 STEAM is open by -V - LAP: V is -13 at 45, -25 at 44
        int[][] due = {{24, 45}, {13, 45}, {12, 46}, {0, 46}, {25, 44}};
        for (int[] pair : due) {
            CHECK.due("END 1, LAP " + pair[0], ahead(pair[0], 0).event(0, 6, 1, 1), pair[1]);
        }
        // with ADVANCE 0 V is -13 at 47, 0 at 0
        CHECK.due("CUTS at 0", of(100, 0, 0, 0, 0, 40).event(0, 6, 1, 1), 0);
        CHECK.due("CUTS at 0", of(100, 0, 0, 12, 0, 40).event(0, 6, 1, 1), 0);
        CHECK.due("CUTS at 47", of(100, 0, 0, 13, 0, 40).event(0, 6, 1, 1), 47);
        CHECK.due("CUTS at 1", of(100, 0, -1, 0, 0, 40).event(0, 6, 1, 1), 1);
        CHECK.due("the head, CUTS at 0", of(100, 0, 0, 0, 0, 40).event(0, -6, 0, 1), 0);
        CHECK.due("the head, CUTS at 47", of(100, 0, 0, 13, 0, 40).event(0, -6, 0, 1), 47);
    }

    private static void releasesAtTheEnds() {
        // with ADVANCE 0 V is -13 at 47, 0 at 0, 13 at 1; with HANG -1 all are 1 less
        CHECK.due("END 1 RELEASES at 1", of(100, 0, 0, 0, 0, 40).event(0, 6, 1, 2), 1);
        CHECK.due("END 1 RELEASES at 1", of(100, 0, 0, 0, 12, 40).event(0, 6, 1, 2), 1);
        CHECK.due("END 1 RELEASES at 2", of(100, 0, 0, 0, 13, 40).event(0, 6, 1, 2), 2);
        CHECK.due("END 1 RELEASES at 0", of(100, 0, 0, 0, -1, 40).event(0, 6, 1, 2), 0);
        CHECK.due("END 1 RELEASES at 0", of(100, 0, 0, 0, -13, 40).event(0, 6, 1, 2), 0);
        CHECK.due("END 1 RELEASES at 47", of(100, 0, 0, 0, -14, 40).event(0, 6, 1, 2), 47);
        CHECK.due("END 0 SHUTS at 0", of(100, 0, 0, 0, 0, 40).event(0, 6, 0, 3), 0);
        CHECK.due("END 0 SHUTS at 0", of(100, 0, 0, 0, 12, 40).event(0, 6, 0, 3), 0);
        CHECK.due("END 0 SHUTS at 47", of(100, 0, 0, 0, 13, 40).event(0, 6, 0, 3), 47);
        CHECK.due("END 0 SHUTS at 1", of(100, 0, 0, 0, -1, 40).event(0, 6, 0, 3), 1);
        CHECK.due("END 0 SHUTS at 1", of(100, 0, 0, 0, -13, 40).event(0, 6, 0, 3), 1);
        CHECK.due("END 0 SHUTS at 2", of(100, 0, 0, 0, -14, 40).event(0, 6, 0, 3), 2);
        CHECK.due("END 0 RELEASES at 25", of(100, 0, 0, 0, 0, 40).event(0, 6, 0, 2), 25);
        CHECK.due("END 1 SHUTS at 24", of(100, 0, 0, 0, 0, 40).event(0, 6, 1, 3), 24);
    }

    private static void neverOpen() {
        ValveShop x = hundred(100, 50, 40);
        CHECK.due("LAP 100: the head ADMITS", x.event(0, 6, 0, 0), Check.NONE);
        CHECK.due("LAP 100: the head CUTS", x.event(0, 6, 0, 1), Check.NONE);
        CHECK.due("LAP 100: END 1 ADMITS", x.event(0, 6, 1, 0), Check.NONE);
        CHECK.due("LAP 100: END 1 CUTS", x.event(0, 6, 1, 1), Check.NONE);
        CHECK.due("status()", x.status(), 0);
        ValveShop y = hundred(99, 50, 40);
        CHECK.due("LAP 99: the head ADMITS", y.event(0, 6, 0, 0), 12);
        CHECK.due("LAP 99: the head CUTS", y.event(0, 6, 0, 1), 13);
        CHECK.due("LAP 99: END 1 ADMITS", y.event(0, 6, 1, 0), 36);
        CHECK.due("LAP 99: END 1 CUTS", y.event(0, 6, 1, 1), 37);
        ValveShop z = of(50, 0, 0, 0, 50, 40);
        CHECK.due("INLAP 50: RELEASES", z.event(0, 6, 0, 2), Check.NONE);
        CHECK.due("INLAP 50: SHUTS", z.event(0, 6, 1, 3), Check.NONE);
        z.adjust(0, INLAP, 49);
        CHECK.due("INLAP 49: RELEASES", z.event(0, 6, 0, 2), 36);
        CHECK.due("INLAP 49: END 1 SHUTS", z.event(0, 6, 1, 3), 13);
    }

    private static void alwaysOpen() {
        // V is -19 to 19 by THROW 19, and -20 to 20 by THROW 20
        for (int end = 0; end < 2; end++) {
            CHECK.due("RELEASES", of(19, 0, 0, 0, -20, 40).event(0, 6, end, 2), Check.NONE);
            CHECK.due("SHUTS", of(19, 0, 0, 0, -20, 40).event(0, 6, end, 3), Check.NONE);
            CHECK.due("shut at one PLACE alone", of(20, 0, 0, 0, -20, 40).event(0, 6, end, 3), end == 0 ? 12 : 36);
            CHECK.due("open behind it", of(20, 0, 0, 0, -20, 40).event(0, 6, end, 2), end == 0 ? 13 : 37);
        }
        CHECK.due("STEAM: ADMITS", of(19, 0, 20, 0, 0, 40).event(0, 6, 0, 0), Check.NONE);
        CHECK.due("STEAM: CUTS", of(19, 0, 20, 0, 0, 40).event(0, 6, 0, 1), Check.NONE);
        CHECK.due("STEAM: CUTS at one PLACE alone", of(20, 0, 20, 0, 0, 40).event(0, 6, 0, 1), 36);
        CHECK.due("STEAM: ADMITS behind it", of(20, 0, 20, 0, 0, 40).event(0, 6, 0, 0), 37);
    }

    private static void openByOne() {
        for (int lap = 90; lap <= 100; lap++) {
            ValveShop x = hundred(lap, 0, 40);
            for (int what = 0; what < 2; what++) {
                int due = Check.NONE;
                for (int k = 47; k >= 0; k--) {
                    boolean now = x.open(0, 6, 0, k, 0) > 0;
                    boolean was = x.open(0, 6, 0, k - 1, 0) > 0;
                    due = now != was && now == (what == 0) ? k : due;
                }
                CHECK.due("LAP " + lap + ", event " + what, x.event(0, 6, 0, what), due);
            }
        }
    }

    private static ValveShop sick(int sickness, int... numbers) {
        ValveShop x = Shops.with(numbers);
        x.sicken(0, sickness);
        return x;
    }

    private static void unlikeNotches() {
        ValveShop first = sick(0, 18, 99, 5, 1, 61, 44, 27, 124, 41, 93, 316);
        CHECK.due("in NOTCH 0 neither CUTS", first.event(0, 0, 0, 1), Check.NONE);
        CHECK.due("in NOTCH 1 neither CUTS", first.event(0, 1, 0, 1), Check.NONE);
        CHECK.due("in NOTCH 2 both do", first.event(0, 2, 0, 1), 6);
        CHECK.due("NOTCH 1 alone, not NOTCH 0", first.valves(0, 0), 24);
        ValveShop last = sick(3, 5, 162, 9, -4, 94, 18, 64, 84, 54, 3, 163);
        CHECK.due("the head CUTS in NOTCH 6", last.event(0, 6, 0, 1), 13);
        CHECK.due("END 1 CUTS in NOTCH 6", last.event(0, 6, 1, 1), 38);
        CHECK.due("NOTCH 6 alone", last.valves(0, 0), 1);
        CHECK.due("each of the six", sick(0, 5, 190, 3, 10, 75, -15, 15, 124, 72, 33, 494).valves(0, 0), 6);
    }

    private static void unlikeOfNone() {
        ValveShop x = sick(7, 0, 84, 5, -8, 69, 6, 24, 196, 26, 50, 152);
        CHECK.due("the head has none in NOTCH 5", x.event(0, 5, 0, 1), Check.NONE);
        CHECK.due("END 1 has one", x.event(0, 5, 1, 1), 35);
        CHECK.due("24 in each of five NOTCHES, and 3", x.valves(0, 0), 5 * 24 + 3);
        ValveShop y = sick(0, 0, 100, 4, 10, 89, 20, 24, 143, 61, 91, 90);
        CHECK.due("the head has one in NOTCH 5", y.event(0, 5, 0, 1), 11);
        CHECK.due("END 1 has none", y.event(0, 5, 1, 1), Check.NONE);
        CHECK.due("24 in each of five NOTCHES, and 4", y.valves(0, 0), 5 * 24 + 4);
        CHECK.due("both have none", Shops.with(Shops.SHUT).valves(0, 0), 6 * 24);
    }

    private static void nearerWay() {
        int[] numbers = {0, 21, 2, 20, 0, 0, 40, 50, 10, 10, 100};
        ValveShop x = Shops.with(numbers);
        int[] head = {20, 25, 29, 30, 31, 32};
        int[] other = {36, 36, 35, 36, 36, 35};
        for (int notch = 1; notch <= 6; notch++) {
            CHECK.due("the head in NOTCH " + notch, x.event(0, notch, 0, 1), head[notch - 1]);
            CHECK.due("END 1 in NOTCH " + notch, x.event(0, notch, 1, 1), other[notch - 1]);
        }
        CHECK.due("END 1 is ahead of 24 behind", x.valves(0, 0), 8 + 13 + 18 + 18 + 19 + 21);
        x.adjust(0, HANG, -20);
        CHECK.due("the head CUTS at 11", x.event(0, 6, 0, 1), 11);
        CHECK.due("END 1 CUTS at 8", x.event(0, 6, 1, 1), 8);
        CHECK.due("END 1 is far behind it", x.valves(0, 0), 8 + 13 + 18 + 18 + 19 + 21);
    }

    private static void eitherWay() {
        ValveShop x = sick(2, 0, 105, 7, -5, 48, 49, 14, 166, 32, 2, 374);
        CHECK.due("the head in NOTCH 4", x.event(0, 4, 0, 1), 13);
        CHECK.due("END 1 one behind", x.event(0, 4, 1, 1), 38);
        CHECK.due("one behind in NOTCHES 4 to 6", x.valves(0, 0), 3);
        ValveShop y = sick(2, 0, 85, 0, 7, 11, 6, 44, 151, 79, 47, 470);
        CHECK.due("the head in NOTCH 1", y.event(0, 1, 0, 1), 26);
        CHECK.due("END 1 two ahead, round the end", y.event(0, 1, 1, 1), 0);
        CHECK.due("two ahead in NOTCH 1, one in all others", y.valves(0, 0), 2 + 5);
        CHECK.due("alike", of(100, 3, -1, 40, 0, 40).valves(0, 0), 0);
    }

    private static void unlikeOfSick() {
        ValveShop x = Shops.with(0, 105, 7, -5, 48, 49, 14, 166, 32, 2, 374);
        int[] due = {1, 4, 3, 3, 1, 3, 2, 1, 1, 1, 1, 1, 1};
        for (int sickness = 0; sickness <= 12; sickness++) {
            x.sicken(0, sickness);
            CHECK.due("SICKNESS " + sickness, x.valves(0, 0), due[sickness]);
        }
    }

    private static void lead() {
        ValveShop x = of(100, 2, 12, 0, 0, 100);
        // S(2) is 2588: V(0) is 25 and 12; in NOTCH 5 it is 25 and 10, V(1) is 50, V(47) 25
        CHECK.due("at PLACE 0 in NOTCH 6", x.valves(0, 1), 37);
        x.adjust(0, LAP, 36);
        CHECK.due("LAP 36", x.valves(0, 1), 1);
        x.adjust(0, LAP, 37);
        CHECK.due("LAP 37", x.valves(0, 1), 0);
        x.adjust(0, LAP, 38);
        CHECK.due("LAP 38", x.valves(0, 1), 0);
        x.adjust(0, LAP, 0);
        x.adjust(0, PORT, 36);
        CHECK.due("PORT 36", x.valves(0, 1), 36);
        x.adjust(0, PORT, 37);
        CHECK.due("PORT 37", x.valves(0, 1), 37);
        x.adjust(0, PORT, 38);
        CHECK.due("PORT 38", x.valves(0, 1), 37);
        int[] due = {37, 25, 12, 0, 38, 38, 38, 37, 37, 37, 37, 37, 37};
        for (int sickness = 0; sickness <= 12; sickness++) {
            x.sicken(0, sickness);
            CHECK.due("LEAD by SICKNESS " + sickness, x.valves(0, 1), due[sickness]);
        }
        CHECK.due("END 1 has no part in it", of(100, 0, -20, 0, 0, 100).valves(0, 1), 0);
    }

    private static void settingIs(ValveShop x, int advance, int hang, int unlike) {
        CHECK.due("ADVANCE", x.setting(0, 0), advance);
        CHECK.due("HANG", x.setting(0, 1), hang);
        CHECK.due("how UNLIKE", x.setting(0, 2), unlike);
    }

    private static void settingOfSeveral() {
        // ADVANCE 3 with HANG -1, 0, 1 are alike, and so is ADVANCE 4 with HANG -2
        settingIs(Shops.plain(), 3, -1, 0);
        ValveShop x = Shops.plain();
        int[][] alike = {{3, -1}, {3, 0}, {3, 1}, {4, -2}, {4, 2}, {11, -2}};
        for (int[] pair : alike) {
            x.adjust(0, ADVANCE, pair[0]);
            x.adjust(0, HANG, pair[1]);
            CHECK.due("ADVANCE " + pair[0] + ", HANG " + pair[1], x.valves(0, 0), 0);
        }
        int[][] unlike = {{3, -2}, {2, 0}, {2, -1}};
        for (int[] pair : unlike) {
            x.adjust(0, ADVANCE, pair[0]);
            x.adjust(0, HANG, pair[1]);
            CHECK.holds("ADVANCE " + pair[0] + ", HANG " + pair[1], x.valves(0, 0) > 0);
        }
    }

    private static void settingEnds() {
        settingIs(Shops.with(Shops.SHUT), 0, -20, 144);
        settingIs(sick(4, 0, 91, 9, 2, 89, 24, 89, 107, 37, 39, 138), 11, 0, 0);
        settingIs(sick(0, 4, 78, 3, -11, 74, 45, 41, 79, 89, 69, 488), 10, 0, 0);
        settingIs(sick(1, 10, 81, 7, -14, 79, 25, 82, 179, 7, 30, 139), 11, 0, 96);
        settingIs(sick(0, 4, 77, 0, 0, 76, 31, 73, 173, 25, 65, 299), 0, 0, 120);
        settingIs(sick(10, 0, 70, 0, -1, 0, -11, 14, 173, 69, 5, 485), 0, 0, 0);
        settingIs(sick(0, 0, 166, 1, 1, 16, 12, 70, 142, 8, 46, 113), 0, -2, 0);
    }

    private static void settingOfItsOwn() {
        int[][] own = {{0, -20}, {11, 20}, {3, -1}, {7, 0}};
        for (int[] pair : own) {
            ValveShop x = Shops.plain();
            x.adjust(0, ADVANCE, pair[0]);
            x.adjust(0, HANG, pair[1]);
            settingIs(x, 3, -1, 0);
            x.sicken(0, 6);
            settingIs(x, 2, -1, 0);
            x.sicken(0, 3);
            settingIs(x, 5, -1, 0);
        }
    }

    private static void settingChangesNothing() {
        ValveShop x = Full.shop();
        for (int what = 0; what < 3; what++) {
            x.setting(0, what);
            x.setting(5, what);
        }
        CHECK.due("status()", x.status(), 0);
        x.as(0, 4);
        CHECK.dueRow("all", Full.all(x), Full.all(Full.shop()));
    }

    private static void tune() {
        for (int sickness = 0; sickness <= 12; sickness++) {
            int[] numbers = {7, 110, 8, 13, 33, 5, 25, 60, 20, 30, 90};
            ValveShop x = sick(sickness, numbers);
            x.twin(1, 0);
            int was = x.valves(0, 0);
            int[] best = {x.setting(0, 0), x.setting(0, 1), x.setting(0, 2)};
            CHECK.due("tune(0)", x.tune(0), was);
            for (int which = 0; which < 11; which++) {
                int due = which == ADVANCE ? best[0] : which == HANG ? best[1] : numbers[which];
                CHECK.due("number(0, " + which + ")", x.number(0, which), due);
                CHECK.due("number(1, " + which + ")", x.number(1, which), numbers[which]);
            }
            CHECK.due("its SICKNESS", x.number(0, 11), sickness);
            CHECK.due("UNLIKE by it", x.valves(0, 0), best[2]);
        }
    }

    private static void tuneTwice() {
        ValveShop x = Shops.plain();
        x.adjust(0, HANG, 20);
        x.adjust(0, THROW, 60);
        int was = x.valves(0, 0);
        CHECK.holds("it is not alike", was > 0);
        CHECK.due("how UNLIKE it was", x.tune(0), was);
        CHECK.due("and by the SETTING", x.tune(0), x.setting(0, 2));
        CHECK.due("status()", x.status(), 0);
    }
}
