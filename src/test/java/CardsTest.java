import java.util.Arrays;

/** Promises 19 to 21. */
public final class CardsTest {
    private static final Check CHECK = new Check("cards");

    private CardsTest() {
    }

    public static void main(String[] args) {
        card();
        cardOfShutValves();
        cardOfLeak();
        cardRefused();
        look();
        work();
        workByCards();
        cardsByOpenings();
        CHECK.end();
    }

    private static void card() {
        ValveShop x = Shops.plain();
        int[] places = {0, 3, 6, 9, 12, 18, 24, 30, 36, 42, 47};
        int[] head = {211, 813, 946, 960, 970, 959, 190, 101, 103, 107, 196};
        int[] other = {190, 102, 101, 102, 103, 107, 214, 946, 970, 959, 416};
        for (int i = 0; i < places.length; i++) {
            CHECK.due("19: END 0 at " + places[i], x.card(0, 6, 1000, 4, 0, places[i]), head[i]);
            CHECK.due("19: END 1 at " + places[i], x.card(0, 6, 1000, 4, 1, places[i]), other[i]);
        }
        CHECK.due("19: status", x.status(), 0);
        CHECK.due("19: BOILER r by 4, cut", x.card(0, 6, 1003, 1, 0, 9), x.card(0, 6, 250, 4, 0, 9));
        CHECK.due("19: REGULATOR 0", x.card(0, 6, 2000, 0, 0, 9), x.card(0, 6, 0, 4, 0, 9));
        int sound = x.card(0, 6, 1000, 4, 0, 6);
        x.adjust(0, 8, 30);
        int choked = x.card(0, 6, 1000, 4, 0, 6);
        x.adjust(0, 8, 10);
        x.sicken(0, 10);
        CHECK.due("19: CHOKED by 20", x.card(0, 6, 1000, 4, 0, 6), choked);
        x.sicken(0, 0);
        x.adjust(0, 2, 5);
        x.sicken(0, 3);
        CHECK.due("19: LATE by -3", x.card(0, 6, 1000, 4, 0, 6), sound);
    }

    /** What is behind the piston is pressed and stretched alone; each step is cut. */
    private static void cardOfShutValves() {
        ValveShop x = Shops.with(4, 10, 0, 0, 100, 50, 1, 20, 1, 1, 500);
        for (int end = 0; end < 2; end++) {
            int[] due = new int[48];
            int pressure = 500;
            int[] room = rooms(x, end);
            for (int turned = 1; turned < 144; turned++) {
                pressure = pressure * room[(turned - 1) % 48] / room[turned % 48];
                due[turned % 48] = pressure;
            }
            for (int k = 0; k < 48; k++) {
                CHECK.due("19: shut, END " + end, x.card(0, 3, 2000, 4, end, k), due[k]);
            }
            x = Shops.with(4, 10, 0, 0, 100, 50, 1, 20, 1, 1, 500);
        }
    }

    private static void cardOfLeak() {
        int[] leaks = {5, 10, 20};
        for (int i = 0; i < 3; i++) {
            ValveShop x = Shops.with(Shops.SHUT);
            x.sicken(0, 7 + i);
            int[] due = new int[48];
            int pressure = 0;
            int[] room = rooms(x, 0);
            for (int turned = 1; turned < 144; turned++) {
                pressure = pressure * room[(turned - 1) % 48] / room[turned % 48];
                pressure += (750 - pressure) * leaks[i] / 200;
                due[turned % 48] = pressure;
            }
            for (int k = 0; k < 48; k++) {
                CHECK.due("19: LEAK " + leaks[i], x.card(0, 3, 1000, 3, 0, k), due[k]);
            }
        }
    }

    private static int[] rooms(ValveShop x, int end) {
        int clear = x.number(0, 7);
        int[] room = new int[48];
        for (int k = 0; k < 48; k++) {
            room[k] = clear + (end == 0 ? x.piston(0, k) : 1000 - x.piston(0, k));
        }
        return room;
    }

    private static void cardRefused() {
        ValveShop x = Shops.plain();
        CHECK.due("19: empty", x.card(1, 0, 0, 0, 0, 0), Check.NULL);
        int[][] bad = {{6, 0, 0, 0, 0, 0}, {-1, 0, 0, 0, 0, 0}, {0, 7, 0, 0, 0, 0}, {0, -7, 0, 0, 0, 0},
            {0, 0, 2001, 0, 0, 0}, {0, 0, -1, 0, 0, 0}, {0, 0, 0, 5, 0, 0}, {0, 0, 0, -1, 0, 0},
            {0, 0, 0, 0, 2, 0}, {0, 0, 0, 0, -1, 0}, {0, 0, 0, 0, 0, 48}, {0, 0, 0, 0, 0, -1},
            {1, 0, 0, 0, 0, 48}};
        for (int[] a : bad) {
            CHECK.due("19: BAD", x.card(a[0], a[1], a[2], a[3], a[4], a[5]), Check.BAD);
            CHECK.due("20: BAD", x.look(a[0], a[1], a[2], a[3], a[4], a[5] == 48 ? 3 : a[5]), Check.BAD);
        }
        for (int i = 0; i < 8; i++) {
            int[] a = bad[i];
            CHECK.due("21: BAD", x.work(a[0], a[1], a[2], a[3], 0), Check.BAD);
        }
        CHECK.due("21: what 2", x.work(0, 0, 0, 0, 2), Check.BAD);
        CHECK.due("21: what -1", x.work(0, 0, 0, 0, -1), Check.BAD);
        CHECK.due("21: empty, BAD first", x.work(1, 0, 0, 0, 2), Check.BAD);
        CHECK.due("19: BAD leaves status", x.status(), 1);
        CHECK.due("20: empty", x.look(1, 0, 0, 0, 0, 0), Check.NULL);
        CHECK.due("21: empty", x.work(1, 0, 0, 0, 0), Check.NULL);
        CHECK.due("19: the most", x.card(0, 6, 2000, 4, 1, 47) >= 0 ? 1 : 0, 1);
        CHECK.due("19: status", x.status(), 0);
    }

    private static void look() {
        ValveShop x = Shops.plain();
        int[][] due = {{475, 978, 1}, {475, 978, 22}};
        for (int end = 0; end < 2; end++) {
            for (int what = 0; what < 3; what++) {
                CHECK.due("20: look", x.look(0, 6, 1000, 4, end, what), due[end][what]);
            }
        }
        CHECK.due("20: status", x.status(), 0);
        for (int notch = -6; notch <= 6; notch += 4) {
            int[] row = Shops.card(x, 0, notch, 900);
            int sum = 0;
            int peak = 0;
            int loop = 0;
            for (int k = 0; k < 48; k++) {
                sum += row[k];
                peak = Math.max(peak, row[k]);
                loop += k > 0 && k < 24 && row[k] < row[48 - k] ? 1 : 0;
            }
            CHECK.due("20: MEAN", x.look(0, notch, 900, 4, 0, 0), sum / 48);
            CHECK.due("20: PEAK", x.look(0, notch, 900, 4, 0, 1), peak);
            CHECK.due("20: LOOP", x.look(0, notch, 900, 4, 0, 2), loop);
        }
    }

    private static void work() {
        ValveShop x = Shops.plain();
        int[][] due = {
            // notch, BOILER, REGULATOR, WORK, DRINK
            {6, 1000, 4, 1641, 1718}, {3, 1000, 4, 1189, 1009}, {1, 1000, 4, -45, 0}, {0, 1000, 4, -11, 0},
            {-6, 1000, 4, -1513, 1365}, {6, 1000, 2, 718, 851}, {6, 2000, 4, 3486, 3453},
            {6, 0, 4, -202, 0}, {6, 1000, 0, -202, 0}};
        for (int[] row : due) {
            CHECK.due("21: WORK", x.work(0, row[0], row[1], row[2], 0), row[3]);
            CHECK.due("21: DRINK", x.work(0, row[0], row[1], row[2], 1), row[4]);
        }
        x.sicken(0, 9);
        CHECK.due("21: WORK with LEAK", x.work(0, 6, 1000, 4, 0), 1438);
        CHECK.due("21: DRINK with LEAK", x.work(0, 6, 1000, 4, 1), 1628);
        x.sicken(0, 3);
        CHECK.due("21: WORK, LATE", x.work(0, 6, 1000, 4, 0), 1483);
        CHECK.due("21: DRINK, LATE", x.work(0, 6, 1000, 4, 1), 1977);
        x.sicken(0, 12);
        CHECK.due("21: WORK, CHOKED", x.work(0, 6, 1000, 4, 0), 1083);
        CHECK.due("21: DRINK, CHOKED", x.work(0, 6, 1000, 4, 1), 1334);
        CHECK.due("21: status", x.status(), 0);
    }

    private static void workByCards() {
        int[] numbers = {7, 150, 4, -6, 30, 5, 25, 20, 40, 30, 90};
        ValveShop x = Shops.with(numbers);
        long sum = 0;
        for (int end = 0; end < 2; end++) {
            for (int k = 0; k < 48; k++) {
                int here = x.card(0, 4, 1700, 3, end, k);
                int on = x.card(0, 4, 1700, 3, end, (k + 1) % 48);
                int moved = x.piston(0, k + 1) - x.piston(0, k);
                sum += (long) (here + on) * (end == 0 ? moved : -moved);
            }
        }
        CHECK.due("21: WORK by both CARDS", Shops.with(numbers).work(0, 4, 1700, 3, 0), sum / 2000);
    }

    private static void cardsByOpenings() {
        int[][] engines = {
            // the NUMBERS, then SICKNESS, NOTCH, BOILER, REGULATOR
            {0, 100, 0, 0, 90, 50, 10, 100, 10, 1, 0, 0, 6, 1000, 4},
            {9, 180, 4, 13, 25, -8, 60, 35, 22, 14, 130, 0, 4, 1501, 3},
            {4, 150, 9, -20, 0, 10, 100, 20, 1, 100, 500, 9, -5, 2000, 4},
            {20, 90, 2, 20, 15, 0, 33, 180, 77, 5, 60, 11, 2, 777, 1},
            {0, 120, 6, -7, 30, 5, 30, 60, 15, 20, 100, 2, 5, 1200, 4},
            {6, 10, 11, 20, 0, -20, 1, 200, 100, 1, 500, 8, 6, 100, 2}};
        for (int[] engine : engines) {
            byOpenings(engine);
        }
    }

    private static ValveShop engineOf(int[] row) {
        ValveShop x = Shops.with(Arrays.copyOf(row, 11));
        x.sicken(0, row[11]);
        return x;
    }

    /** What open() and piston() tell is enough for both CARDS, WORK and DRINK. */
    private static void byOpenings(int[] row) {
        long work = 0;
        long drink = 0;
        for (int end = 0; end < 2; end++) {
            ValveShop x = engineOf(row);
            int[] room = rooms(x, end);
            int[] due = new int[48];
            drink += drawnBy(x, row, end, room, due);
            for (int k = 0; k < 48; k++) {
                CHECK.due("19: END " + end + " at " + k, x.card(0, row[12], row[13], row[14], end, k), due[k]);
                work += (long) (due[k] + due[(k + 1) % 48]) * (room[(k + 1) % 48] - room[k]);
            }
            looksOf(x, row, end, due);
        }
        CHECK.due("21: WORK of both ENDS", engineOf(row).work(0, row[12], row[13], row[14], 0), work / 2000);
        CHECK.due("21: DRINK of both ENDS", engineOf(row).work(0, row[12], row[13], row[14], 1), drink / 1000);
    }

    private static long drawnBy(ValveShop x, int[] row, int end, int[] room, int[] due) {
        int[] leaks = {0, 0, 0, 0, 0, 0, 0, 5, 10, 20, 0, 0, 0};
        int[] choked = {0, 0, 0, 0, 0, 0, 0, 0, 0, 0, 20, 50, 100};
        int live = row[13] * row[14] / 4;
        int pressure = row[10];
        long sum = 0;
        for (int turned = 1; turned < 144; turned++) {
            int k = turned % 48;
            pressure = pressure * room[(turned - 1) % 48] / room[k];
            int steam = x.open(0, row[12], end, k, 0);
            int more = (live - pressure) * steam / (steam + row[8] + choked[row[11]]);
            sum += turned >= 96 && more > 0 ? (long) more * room[k] : 0;
            pressure += more;
            int exhaust = x.open(0, row[12], end, k, 1);
            pressure += (row[10] - pressure) * exhaust / (exhaust + row[9]);
            pressure += (live - pressure) * leaks[row[11]] / 200;
            due[k] = pressure;
        }
        return sum;
    }

    private static void looksOf(ValveShop x, int[] row, int end, int[] due) {
        int sum = 0;
        int peak = 0;
        int loop = 0;
        for (int k = 0; k < 48; k++) {
            sum += due[k];
            peak = Math.max(peak, due[k]);
            loop += k > 0 && k < 24 && due[k] < due[48 - k] ? 1 : 0;
        }
        int[] looks = {sum / 48, peak, loop};
        for (int what = 0; what < 3; what++) {
            x.kind(3);
            CHECK.due("20: look, END " + end, x.look(0, row[12], row[13], row[14], end, what), looks[what]);
            CHECK.due("20: status", x.status(), 0);
        }
    }
}
