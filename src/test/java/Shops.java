/** Shops to begin tests with. */
final class Shops {
    /** The engine of most tests: ROD, THROW, ADVANCE, HANG, LAP, INLAP, PORT, CLEAR, CHOKE, DRAIN, AIR. */
    static final int[] PLAIN = {0, 100, 2, 0, 40, 0, 40, 50, 10, 10, 100};
    /** Neither STEAM nor EXHAUST ever opens. */
    static final int[] SHUT = {0, 10, 0, 0, 100, 50, 1, 20, 1, 1, 0};

    private Shops() {
    }

    /** A shop with this engine at place 0; its SHEET, number 0, is dropped. */
    static ValveShop with(int... numbers) {
        ValveShop shop = new ValveShop();
        put(shop, 0, numbers);
        shop.drop(0);
        return shop;
    }

    static ValveShop plain() {
        return with(PLAIN);
    }

    /** An engine at a place, by SHEET 0. */
    static void put(ValveShop shop, int place, int... numbers) {
        fill(shop, 0, numbers);
        if (shop.engine(place, 0, 0) != 1) {
            throw new IllegalStateException("no such engine");
        }
    }

    /** A SHEET of ints with these ITEMS. */
    static void fill(ValveShop shop, int sheet, int... items) {
        shop.sheet(sheet, 2, items.length);
        for (int i = 0; i < items.length; i++) {
            shop.set(sheet, i, items[i]);
        }
    }

    /** An ITEM of a SHEET of ints, 0 to 500: it is read as the AIR of an engine at place 5, by SHEET 7. */
    static int item(ValveShop shop, int sheet, int i) {
        fill(shop, 7, PLAIN);
        shop.copy(sheet, i, 7, 10, 1);
        int answer = shop.engine(5, 7, 0);
        if (answer == 1) {
            answer = shop.number(5, 10);
        }
        shop.clear(5);
        shop.drop(7);
        return answer;
    }

    static int[] items(ValveShop shop, int sheet, int n) {
        int[] row = new int[n];
        for (int i = 0; i < n; i++) {
            row[i] = item(shop, sheet, i);
        }
        return row;
    }

    /** The CARD of END 0, by REGULATOR 4. */
    static int[] card(ValveShop shop, int place, int notch, int boiler) {
        int[] row = new int[48];
        for (int k = 0; k < 48; k++) {
            row[k] = shop.card(place, notch, boiler, 4, 0, k);
        }
        return row;
    }
}
