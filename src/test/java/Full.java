import java.util.ArrayList;
import java.util.List;

/** A shop with something of everything, and all that can be asked of it. */
final class Full {
    /** SHEETS 0 and 7: a RUN of 10 STRETCHES from 0 on, a FOUND CARD from 0 on, an ENGINE from 49 on. */
    static final int[] INTS = {
        10, 50, 0, 20, 120, 1, 5, 200, 0, 50, 0, 1, 1, 2000, 0, 3, 300, 1, 7, 0, 0, 9, 90, 0, 2, 450, 1, 4, 60, 0,
        500, 5000, 0, -1, 700, 650, 600, 550, 410, 320, 230, 140, 110, 101, 99, 88, 77, 66, 55,
        0, 100, 2, -2, 40, 0, 40, 50, 10, 10, 100};
    static final int[] SHORTS = {31, 41, 59, 26, 53, 58, 97, 93, 23, 84, 62, 64};
    static final int[] BYTES = {3, 1, 4, 15, 9};
    /** The SHEETS of LANES 1, 0, 2, of which the last one has no ITEM; SHEETS 5 and 6 are missing. */
    static final int OF_SHORTS = 1, OF_BYTES = 2, SMALL = 3, OF_NONE = 4, MISSING = 5, ENGINE_AT = 49;
    /** Places 0 and 5: a SOUND and a SICK ENGINE, each with a FOUND CARD; 1 EVEN, 2 SICK, 3 STUCK. */
    static final int EVEN = 1, SICK = 2, STUCK = 3, EMPTY = 4;
    /** What the build leaves: the FINDING of its last call is a KIND. */
    static final int STATUS = 3;

    private Full() {
    }

    static ValveShop shop() {
        ValveShop shop = new ValveShop();
        build(shop);
        return shop;
    }

    static void build(Object shop) {
        sheets(shop);
        engines(shop);
        runAndFire(shop);
        Talk.ask(shop, "ask", EVEN, 0);
        Talk.ask(shop, "as", 0, 4);
    }

    private static void fill(Object shop, int sheet, int lane, int[] items) {
        Talk.ask(shop, "sheet", sheet, lane, items.length);
        for (int i = 0; i < items.length; i++) {
            Talk.ask(shop, "set", sheet, i, items[i]);
        }
    }

    private static void sheets(Object shop) {
        fill(shop, 0, 2, INTS);
        fill(shop, OF_SHORTS, 1, SHORTS);
        fill(shop, OF_BYTES, 0, BYTES);
        Talk.ask(shop, "sheet", SMALL, 2, 5);
        Talk.ask(shop, "copy", 0, 30, SMALL, 0, 5);
        Talk.ask(shop, "sheet", OF_NONE, 2, 0);
        Talk.ask(shop, "sheet", 7, 2, 60);
        Talk.ask(shop, "copy", 0, 0, 7, 0, 60);
    }

    private static void engines(Object shop) {
        Talk.ask(shop, "engine", 0, 0, ENGINE_AT);
        Talk.ask(shop, "twin", EVEN, 0);
        Talk.ask(shop, "tune", EVEN);
        Talk.ask(shop, "twin", SICK, 0);
        Talk.ask(shop, "sicken", SICK, 12);
        Talk.ask(shop, "twin", STUCK, SICK);
        Talk.ask(shop, "adjust", STUCK, 1, 10);
        Talk.ask(shop, "engine", 5, 7, ENGINE_AT);
        Talk.ask(shop, "adjust", 5, 0, 7);
        Talk.ask(shop, "sicken", 5, 5);
        Talk.ask(shop, "find", 0, 6, 1000, 0, 0);
        Talk.ask(shop, "find", 5, -3, 700, 7, 4);
    }

    private static void runAndFire(Object shop) {
        Talk.ask(shop, "run", 0, 1000, 500, 0, 0, 2);
        Talk.ask(shop, "stoke", 400);
        for (int i = 0; i < 17; i++) {
            Talk.ask(shop, "minute", 0, 6, i < 16 ? 0 : 4);
        }
    }

    /** What all questions answer; the shop is not the same any more after it. Of 240 calls. */
    static int[] all(Object shop) {
        List<Integer> row = new ArrayList<>();
        row.add(Talk.ask(shop, "status"));
        one(row, shop, "trace", -1, 6);
        one(row, shop, "count", 0, 7);
        one(row, shop, "fire", 0, 5);
        for (int i = 0; i < 3; i++) {
            for (int what = 0; what < 4; what++) {
                row.add(Talk.ask(shop, "plan", i, what));
            }
        }
        for (int place = 0; place < 6; place++) {
            row.add(Talk.ask(shop, "misfit", place, 0));
            row.add(Talk.ask(shop, "misfit", place, 8));
            row.add(Talk.ask(shop, "kind", place));
            for (int which = 0; which < 12; which++) {
                row.add(Talk.ask(shop, "number", place, which));
            }
        }
        one(row, shop, "clear", 0, 5);
        items(row, shop);
        for (int sheet = 0; sheet < 8; sheet++) {
            row.add(Talk.ask(shop, "set", sheet, 0, 40000));
            row.add(Talk.ask(shop, "drop", sheet));
        }
        return row.stream().mapToInt(v -> v).toArray();
    }

    private static void one(List<Integer> row, Object shop, String call, int low, int high) {
        for (int v = low; v <= high; v++) {
            row.add(Talk.ask(shop, call, v));
        }
    }

    /** By an ENGINE whose CARDS are 0 all over, whose() tells the sum of 48 ITEMS. */
    private static void items(List<Integer> row, Object shop) {
        row.add(Talk.ask(shop, "drop", MISSING));
        for (int sheet = 0; sheet < 8; sheet += 7) {
            row.add(Talk.ask(shop, "engine", 1, sheet, ENGINE_AT));
            for (int which = 0; which < 11; which++) {
                row.add(Talk.ask(shop, "number", 1, which));
            }
        }
        Talk.ask(shop, "clear", 1);
        fill(shop, MISSING, 1, Shops.SHUT);
        Talk.ask(shop, "engine", 0, MISSING, 0);
        sums(row, shop, 0, 4);
        sums(row, shop, 7, 4);
        int[] sheets = {OF_SHORTS, OF_BYTES, SMALL};
        int[] lanes = {1, 0, 2};
        int[] sizes = {SHORTS.length, BYTES.length, 5};
        for (int i = 0; i < 3; i++) {
            Talk.ask(shop, "sheet", MISSING, lanes[i], 60);
            row.add(Talk.ask(shop, "copy", sheets[i], 0, MISSING, 0, sizes[i]));
            sums(row, shop, MISSING, sizes[i]);
        }
        row.add(Talk.ask(shop, "drop", MISSING));
    }

    private static void sums(List<Integer> row, Object shop, int sheet, int most) {
        for (int i = 0; i <= most; i++) {
            row.add(Talk.ask(shop, "whose", sheet, i, 0, 2));
        }
    }
}
