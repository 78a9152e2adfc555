/** Promises 19 to 21. */
public final class CardsTest {
    private static final Check CHECK = new Check("cards");

    private CardsTest() {
    }

    public static void main(String[] args) {
        card();
        cardOfShutValves();
        cardOfLeak();
        cardRefused();
        look();
        work();
        workByCards();
        drink();
        CHECK.end();
    }

    private static void card() {
        ValveShop x = Shops.plain();
        int[] places = {0, 3, 6, 9, 12, 18, 24, 30, 36, 42, 47};
        int[] head = {211, 813, 946, 960, 970, 959, 190, 101, 103, 107, 196};
        int[] other = {190, 102, 101, 102, 103, 107, 214, 946, 970, 959, 416};
        for (int i = 0; i < places.length; i++) {
            CHECK.due("19: END 0 at " + places[i], x.card(0, 6, 1000, 4, 0, places[i]), head[i]);
            CHECK.due("19: END 1 at " + places[i], x.card(0, 6, 1000, 4, 1, places[i]), other[i]);
        }
        CHECK.due("19: status", x.status(), 0);
        CHECK.due("19: BOILER r by 4, cut", x.card(0, 6, 1003, 1, 0, 9), x.card(0, 6, 250, 4, 0, 9));
        CHECK.due("19: REGULATOR 0", x.card(0, 6, 2000, 0, 0, 9), x.card(0, 6, 0, 4, 0, 9));
        int sound = x.card(0, 6, 1000, 4, 0, 6);
        x.adjust(0, 8, 30);
        int choked = x.card(0, 6, 1000, 4, 0, 6);
        x.adjust(0, 8, 10);
        x.sicken(0, 10);
        CHECK.due("19: CHOKED by 20", x.card(0, 6, 1000, 4, 0, 6), choked);
        x.sicken(0, 0);
        x.adjust(0, 2, 5);
        x.sicken(0, 3);
        CHECK.due("19: LATE by -3", x.card(0, 6, 1000, 4, 0, 6), sound);
    }

    /** What is behind the piston is pressed and stretched alone; each step is cut. */
    private static void cardOfShutValves() {
        ValveShop x = Shops.with(4, 10, 0, 0, 100, 50, 1, 20, 1, 1, 500);
        for (int end = 0; end < 2; end++) {
            int[] due = new int[48];
            int pressure = 500;
            for (int turned = 1; turned < 144; turned++) {
                pressure = pressure * room(x, end, turned - 1) / room(x, end, turned);
                due[turned % 48] = pressure;
            }
            for (int k = 0; k < 48; k++) {
                CHECK.due("19: shut, END " + end, x.card(0, 3, 2000, 4, end, k), due[k]);
            }
            x = Shops.with(4, 10, 0, 0, 100, 50, 1, 20, 1, 1, 500);
        }
    }

    private static void cardOfLeak() {
        int[] leaks = {5, 10, 20};
        for (int i = 0; i < 3; i++) {
            ValveShop x = Shops.with(Shops.SHUT);
            x.sicken(0, 7 + i);
            int[] due = new int[48];
            int pressure = 0;
            for (int turned = 1; turned < 144; turned++) {
                pressure = pressure * room(x, 0, turned - 1) / room(x, 0, turned);
                pressure += (750 - pressure) * leaks[i] / 200;
                due[turned % 48] = pressure;
            }
            for (int k = 0; k < 48; k++) {
                CHECK.due("19: LEAK " + leaks[i], x.card(0, 3, 1000, 3, 0, k), due[k]);
            }
        }
    }

    private static int room(ValveShop x, int end, int k) {
        int stroke = x.piston(0, k);
        return x.number(0, 7) + (end == 0 ? stroke : 1000 - stroke);
    }

    private static void cardRefused() {
        ValveShop x = Shops.plain();
        CHECK.due("19: empty", x.card(1, 0, 0, 0, 0, 0), Check.NULL);
        int[][] bad = {{6, 0, 0, 0, 0, 0}, {-1, 0, 0, 0, 0, 0}, {0, 7, 0, 0, 0, 0}, {0, -7, 0, 0, 0, 0},
            {0, 0, 2001, 0, 0, 0}, {0, 0, -1, 0, 0, 0}, {0, 0, 0, 5, 0, 0}, {0, 0, 0, -1, 0, 0},
            {0, 0, 0, 0, 2, 0}, {0, 0, 0, 0, -1, 0}, {0, 0, 0, 0, 0, 48}, {0, 0, 0, 0, 0, -1},
            {1, 0, 0, 0, 0, 48}};
        for (int[] a : bad) {
            CHECK.due("19: BAD", x.card(a[0], a[1], a[2], a[3], a[4], a[5]), Check.BAD);
            CHECK.due("20: BAD", x.look(a[0], a[1], a[2], a[3], a[4], a[5] == 48 ? 3 : a[5]), Check.BAD);
        }
        for (int i = 0; i < 8; i++) {
            int[] a = bad[i];
            CHECK.due("21: BAD", x.work(a[0], a[1], a[2], a[3], 0), Check.BAD);
        }
        CHECK.due("21: what 2", x.work(0, 0, 0, 0, 2), Check.BAD);
        CHECK.due("21: what -1", x.work(0, 0, 0, 0, -1), Check.BAD);
        CHECK.due("21: empty, BAD first", x.work(1, 0, 0, 0, 2), Check.BAD);
        CHECK.due("19: BAD leaves status", x.status(), 1);
        CHECK.due("20: empty", x.look(1, 0, 0, 0, 0, 0), Check.NULL);
        CHECK.due("21: empty", x.work(1, 0, 0, 0, 0), Check.NULL);
        CHECK.due("19: the most", x.card(0, 6, 2000, 4, 1, 47) >= 0 ? 1 : 0, 1);
        CHECK.due("19: status", x.status(), 0);
    }

    private static void look() {
        ValveShop x = Shops.plain();
        int[][] due = {{475, 978, 1}, {475, 978, 22}};
        for (int end = 0; end < 2; end++) {
            for (int what = 0; what < 3; what++) {
                CHECK.due("20: look", x.look(0, 6, 1000, 4, end, what), due[end][what]);
            }
        }
        CHECK.due("20: status", x.status(), 0);
        for (int notch = -6; notch <= 6; notch += 4) {
            int[] row = Shops.card(x, 0, notch, 900);
            int sum = 0;
            int peak = 0;
            int loop = 0;
            for (int k = 0; k < 48; k++) {
                sum += row[k];
                peak = Math.max(peak, row[k]);
                loop += k > 0 && k < 24 && row[k] < row[48 - k] ? 1 : 0;
            }
            CHECK.due("20: MEAN", x.look(0, notch, 900, 4, 0, 0), sum / 48);
            CHECK.due("20: PEAK", x.look(0, notch, 900, 4, 0, 1), peak);
            CHECK.due("20: LOOP", x.look(0, notch, 900, 4, 0, 2), loop);
        }
    }

    private static void work() {
        ValveShop x = Shops.plain();
        int[][] due = {
            // notch, BOILER, REGULATOR, WORK, DRINK
            {6, 1000, 4, 1641, 1718}, {3, 1000, 4, 1189, 1009}, {1, 1000, 4, -45, 0}, {0, 1000, 4, -11, 0},
            {-6, 1000, 4, -1513, 1365}, {6, 1000, 2, 718, 851}, {6, 2000, 4, 3486, 3453},
            {6, 0, 4, -202, 0}, {6, 1000, 0, -202, 0}};
        for (int[] row : due) {
            CHECK.due("21: WORK", x.work(0, row[0], row[1], row[2], 0), row[3]);
            CHECK.due("21: DRINK", x.work(0, row[0], row[1], row[2], 1), row[4]);
        }
        x.sicken(0, 9);
        CHECK.due("21: WORK with LEAK", x.work(0, 6, 1000, 4, 0), 1438);
        CHECK.due("21: DRINK with LEAK", x.work(0, 6, 1000, 4, 1), 1628);
        x.sicken(0, 3);
        CHECK.due("21: WORK, LATE", x.work(0, 6, 1000, 4, 0), 1483);
        CHECK.due("21: DRINK, LATE", x.work(0, 6, 1000, 4, 1), 1977);
        x.sicken(0, 12);
        CHECK.due("21: WORK, CHOKED", x.work(0, 6, 1000, 4, 0), 1083);
        CHECK.due("21: DRINK, CHOKED", x.work(0, 6, 1000, 4, 1), 1334);
        CHECK.due("21: status", x.status(), 0);
    }

    private static void workByCards() {
        int[] numbers = {7, 150, 4, -6, 30, 5, 25, 20, 40, 30, 90};
        ValveShop x = Shops.with(numbers);
        long sum = 0;
        for (int end = 0; end < 2; end++) {
            for (int k = 0; k < 48; k++) {
                int here = x.card(0, 4, 1700, 3, end, k);
                int on = x.card(0, 4, 1700, 3, end, (k + 1) % 48);
                int moved = x.piston(0, k + 1) - x.piston(0, k);
                sum += (long) (here + on) * (end == 0 ? moved : -moved);
            }
        }
        CHECK.due("21: WORK by both CARDS", Shops.with(numbers).work(0, 4, 1700, 3, 0), sum / 2000);
    }

    /** Before STEAM there is nothing, and the chest is shut but at a few PLACES: they can be told by hand. */
    private static void drink() {
        ValveShop x = Shops.with(0, 100, 0, 0, 90, 50, 10, 100, 10, 1, 0);
        long sum = 0;
        for (int end = 0; end < 2; end++) {
            int pressure = 0;
            sum = 0;
            ValveShop y = Shops.with(0, 100, 0, 0, 90, 50, 10, 100, 10, 1, 0);
            int[] room = new int[48];
            int[] steam = new int[48];
            int[] exhaust = new int[48];
            for (int k = 0; k < 48; k++) {
                room[k] = room(y, end, k);
                steam[k] = y.open(0, 6, end, k, 0);
                exhaust[k] = y.open(0, 6, end, k, 1);
            }
            for (int turned = 1; turned < 144; turned++) {
                int k = turned % 48;
                pressure = pressure * room[(turned - 1) % 48] / room[k];
                int more = (1000 - pressure) * steam[k] / (steam[k] + 10);
                sum += turned >= 96 && more > 0 ? (long) more * room[k] : 0;
                pressure += more;
                pressure += -pressure * exhaust[k] / (exhaust[k] + 1);
            }
            drunk += sum;
        }
        CHECK.due("21: DRINK of both ENDS", x.work(0, 6, 1000, 4, 1), drunk / 1000);
        CHECK.due("21: there is some", drunk > 0 ? 1 : 0, 1);
    }

    private static long drunk;
}
