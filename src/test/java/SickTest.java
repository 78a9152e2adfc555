/** Promises 22 to 26. */
public final class SickTest {
    private static final Check CHECK = new Check("sick ones");
    private static final int[] CARD = {
        500, 520, 540, 600, 700, 800, 850, 900, 920, 900, 800, 700, 600, 520, 450, 400,
        350, 320, 300, 280, 260, 240, 220, 200, 180, 160, 150, 140, 130, 120, 110, 100,
        100, 100, 100, 100, 100, 110, 120, 130, 150, 180, 220, 260, 300, 350, 400, 450};

    private SickTest() {
    }

    public static void main(String[] args) {
        find();
        findRefused();
        howLongItIsKept();
        misfit();
        misfitByWhatCanBeRead();
        named();
        namedBySicknesses();
        whose();
        ofAllSheets();
        whoseOfSeveral();
        whoseRefused();
        next();
        nextOfAll();
        CHECK.end();
    }

    private static ValveShop withCard() {
        ValveShop x = Shops.plain();
        Shops.fill(x, 1, CARD);
        return x;
    }

    private static void find() {
        ValveShop x = withCard();
        CHECK.due("22: find", x.find(0, 6, 1000, 1, 0), 48);
        CHECK.due("22: status", x.status(), 0);
        CHECK.due("22: count(6)", x.count(6), 1);
        x.set(1, 0, 0);
        CHECK.due("22: the SHEET is not needed any more", x.misfit(0, 0), 9992);
        x.drop(1);
        CHECK.due("22: the SHEET is not needed any more", x.misfit(0, 0), 9992);
        x.sheet(2, 2, 60);
        x.set(2, 12, -1);
        x.set(2, 59, -1);
        x.set(2, 11, -1);
        x.set(2, 13, 5000);
        CHECK.due("22: how many can be read", x.find(0, -6, 2000, 2, 12), 46);
        CHECK.due("22: in place of the other", x.count(6), 1);
        CHECK.due("22: in place of the other", x.misfit(0, 0) == 9992 ? 1 : 0, 0);
        for (int i = 0; i < 48; i++) {
            x.set(2, i, -1);
        }
        CHECK.due("22: none can be read", x.find(0, 0, 0, 2, 0), 0);
        CHECK.due("22: none can be read", x.misfit(0, 3), 0);
    }

    private static void findRefused() {
        ValveShop x = withCard();
        CHECK.due("22: place 6", x.find(6, 0, 0, 1, 0), Check.BAD);
        CHECK.due("22: place -1", x.find(-1, 0, 0, 1, 0), Check.BAD);
        CHECK.due("22: NOTCH 7", x.find(0, 7, 0, 1, 0), Check.BAD);
        CHECK.due("22: BOILER 2001", x.find(0, 0, 2001, 1, 0), Check.BAD);
        CHECK.due("22: BOILER -1", x.find(0, 0, -1, 1, 0), Check.BAD);
        CHECK.due("22: SHEET 8", x.find(0, 0, 0, 8, 0), Check.BAD);
        CHECK.due("22: SHEET -1", x.find(1, 0, 0, -1, 0), Check.BAD);
        CHECK.due("22: no ENGINE", x.find(1, 0, 0, 1, 99), Check.NULL);
        CHECK.due("22: no SHEET", x.find(0, 0, 0, 3, 99), Check.NULL);
        CHECK.due("22: status", x.status(), 1);
        CHECK.due("22: from 1", x.find(0, 0, 0, 1, 1), Check.PLACE);
        CHECK.due("22: from -1", x.find(0, 0, 0, 1, -1), Check.PLACE);
        CHECK.due("22: from MAX", x.find(0, 0, 0, 1, Integer.MAX_VALUE), Check.PLACE);
        CHECK.due("22: status", x.status(), 2);
        CHECK.due("22: nothing is kept", x.count(6), 0);
        x.find(0, 6, 1000, 1, 0);
        x.kind(1);
        x.set(1, 47, 5001);
        x.kind(1);
        CHECK.due("22: 5001", x.find(0, 3, 500, 1, 0), Check.BAD);
        CHECK.due("22: PLACE first", x.find(0, 3, 500, 1, 1), Check.PLACE);
        x.set(1, 47, -2);
        CHECK.due("22: -2", x.find(0, 3, 500, 1, 0), Check.BAD);
        CHECK.due("22: the other is kept yet", x.misfit(0, 0), 9992);
        x.kind(1);
        x.find(0, 3, 500, 1, 0);
        CHECK.due("22: BAD leaves status", x.status(), 1);
        x.set(1, 47, 5000);
        CHECK.due("22: 5000", x.find(0, 3, 500, 1, 0), 48);
    }

    private static void howLongItIsKept() {
        ValveShop x = withCard();
        Shops.fill(x, 0, Shops.PLAIN);
        x.twin(1, 0);
        x.find(0, 6, 1000, 1, 0);
        x.adjust(0, 8, 50);
        CHECK.due("22: adjust(): it stays", x.count(6), 1);
        CHECK.due("22: by the ENGINE as it is", x.named(0, 1, 0), 5714);
        x.adjust(0, 8, 10);
        x.sicken(0, 3);
        CHECK.due("22: sicken(): it stays", x.misfit(0, 0), 9992);
        x.sicken(0, 0);
        x.twin(2, 0);
        CHECK.due("22: a twin has none", x.misfit(2, 0), Check.STATE);
        x.tune(0);
        CHECK.due("22: tune(): it stays", x.count(6), 1);
        x.engine(0, 0, 1);
        CHECK.due("22: engine() found PLACE: it stays", x.count(6), 1);
        x.engine(0, 0, 0);
        CHECK.due("22: engine(): none", x.misfit(0, 0), Check.STATE);
        x.find(0, 6, 1000, 1, 0);
        x.twin(0, 4);
        CHECK.due("22: twin() found NULL: it stays", x.count(6), 1);
        x.twin(0, 1);
        CHECK.due("22: twin(): none", x.misfit(0, 0), Check.STATE);
        x.find(0, 6, 1000, 1, 0);
        x.twin(0, 0);
        CHECK.due("22: twin of itself: none", x.misfit(0, 0), Check.STATE);
        x.find(0, 6, 1000, 1, 0);
        x.clear(0);
        CHECK.due("22: clear(): none", x.misfit(0, 0), Check.STATE);
        CHECK.due("22: clear(): none", x.count(6), 0);
        x.twin(0, 1);
        CHECK.due("22: an ENGINE comes: none yet", x.misfit(0, 0), Check.STATE);
    }

    private static void misfit() {
        ValveShop x = withCard();
        x.find(0, 6, 1000, 1, 0);
        int[] due = {9992, 11157, 12616, 14347, 9118, 8465, 8047, 9576, 9500, 10634, 8789, 8896, 8913};
        for (int sickness = 0; sickness <= 12; sickness++) {
            CHECK.due("23: misfit(0, " + sickness + ")", x.misfit(0, sickness), due[sickness]);
        }
        CHECK.due("23: nothing changes", x.number(0, 11), 0);
        CHECK.due("23: status", x.status(), 0);
        x.sicken(0, 5);
        CHECK.due("23: in place of its own", x.misfit(0, 0), 9992);
        CHECK.due("23: its own stays", x.number(0, 11), 5);
        x.kind(3);
        CHECK.due("23: SICKNESS 13", x.misfit(0, 13), Check.BAD);
        CHECK.due("23: SICKNESS -1", x.misfit(0, -1), Check.BAD);
        CHECK.due("23: place 6", x.misfit(6, 0), Check.BAD);
        CHECK.due("23: place -1", x.misfit(-1, 0), Check.BAD);
        CHECK.due("23: empty", x.misfit(3, 0), Check.STATE);
        CHECK.due("23: BAD first", x.misfit(3, 13), Check.BAD);
        x.twin(3, 0);
        x.kind(4);
        CHECK.due("23: none is kept", x.misfit(3, 0), Check.STATE);
        CHECK.due("23: STATE leaves status", x.status(), 1);
    }

    private static void misfitByWhatCanBeRead() {
        ValveShop x = Shops.plain();
        int[] row = Shops.card(x, 0, 2, 700);
        row[5] += 30;
        row[47] = -1;
        row[20] -= 7;
        Shops.fill(x, 1, row);
        CHECK.due("22: in NOTCH 2, by BOILER 700", x.find(0, 2, 700, 1, 0), 47);
        CHECK.due("23: how far, either way", x.misfit(0, 0), 37);
    }

    private static void named() {
        ValveShop x = withCard();
        x.find(0, 6, 1000, 1, 0);
        CHECK.due("24: NAMED", x.named(0, 0, 0), 6);
        CHECK.due("24: its MISFIT", x.named(0, 1, 0), 8047);
        CHECK.due("24: DOUBT by 0", x.named(0, 2, 0), 0);
        CHECK.due("24: DOUBT by 417", x.named(0, 2, 417), 0);
        CHECK.due("24: DOUBT by 418", x.named(0, 2, 418), 1);
        CHECK.due("24: DOUBT by 1000", x.named(0, 2, 1000), 4);
        CHECK.due("24: DOUBT by 100000", x.named(0, 2, 100000), 12);
        CHECK.due("24: the number is not looked at", x.named(0, 0, -1), 6);
        CHECK.due("24: the number is not looked at", x.named(0, 1, 100001), 8047);
        CHECK.due("24: status", x.status(), 0);
        CHECK.due("24: nothing changes", x.number(0, 11), 0);
        CHECK.due("24: number 100001", x.named(0, 2, 100001), Check.BAD);
        CHECK.due("24: number -1", x.named(0, 2, -1), Check.BAD);
        CHECK.due("24: what 3", x.named(0, 3, 0), Check.BAD);
        CHECK.due("24: what -1", x.named(0, -1, 0), Check.BAD);
        CHECK.due("24: place 6", x.named(6, 0, 0), Check.BAD);
        CHECK.due("24: empty", x.named(1, 0, 0), Check.STATE);
        CHECK.due("24: BAD first", x.named(1, 2, -1), Check.BAD);
    }

    private static void namedBySicknesses() {
        for (int sickness = 0; sickness <= 12; sickness++) {
            ValveShop x = Shops.plain();
            x.sicken(0, sickness);
            Shops.fill(x, 1, Shops.card(x, 0, 6, 1000));
            x.find(0, 6, 1000, 1, 0);
            x.sicken(0, 0);
            CHECK.due("24: NAMED", x.named(0, 0, 0), sickness);
            CHECK.due("24: it is just that", x.named(0, 1, 0), 0);
        }
        ValveShop x = Shops.with(Shops.SHUT);
        Shops.fill(x, 1, new int[48]);
        x.find(0, 6, 1000, 1, 0);
        x.sicken(0, 12);
        CHECK.due("24: of several the least number", x.named(0, 0, 0), 0);
        CHECK.due("24: others as near", x.named(0, 2, 0), 9);
    }

    private static void whose() {
        ValveShop x = withCard();
        x.twin(1, 0);
        x.adjust(1, 2, 4);
        CHECK.due("25: the place", x.whose(1, 0, 1000, 0), 1);
        CHECK.due("25: the NOTCH", x.whose(1, 0, 1000, 1), 2);
        CHECK.due("25: the sum", x.whose(1, 0, 1000, 2), 4445);
        CHECK.due("25: status", x.status(), 0);
        x.twin(5, 1);
        x.sicken(5, 11);
        for (int notch = -6; notch <= 6; notch += 6) {
            Shops.fill(x, 1, Shops.card(x, 5, notch, 800));
            CHECK.due("25: the place", x.whose(1, 0, 800, 0), 5);
            CHECK.due("25: the NOTCH", x.whose(1, 0, 800, 1), notch);
            CHECK.due("25: the sum", x.whose(1, 0, 800, 2), 0);
        }
        CHECK.due("25: nothing is kept", x.count(6), 0);
        CHECK.due("25: nothing changes", x.number(5, 11), 11);
    }

    private static void ofAllSheets() {
        for (int sheet = 0; sheet < 8; sheet++) {
            ValveShop x = Shops.plain();
            Shops.fill(x, sheet, CARD);
            CHECK.due("22: SHEET " + sheet, x.find(0, 6, 1000, sheet, 0), 48);
            CHECK.due("25: place 0", x.whose(sheet, 0, 1000, 0), 0);
            x.kind(3);
            CHECK.due("24: DOUBT", x.named(0, 2, 1000), 4);
            CHECK.due("24: status", x.status(), 0);
            x.set(sheet, 0, -2);
            CHECK.due("22: the first ITEM", x.find(0, 6, 1000, sheet, 0), Check.BAD);
            CHECK.due("25: the first ITEM", x.whose(sheet, 0, 1000, 0), Check.BAD);
        }
        for (int place = 0; place < 6; place++) {
            ValveShop x = new ValveShop();
            Shops.put(x, place, Shops.PLAIN);
            Shops.fill(x, 1, CARD);
            CHECK.due("25: place " + place, x.whose(1, 0, 1000, 0), place);
            CHECK.due("22: place " + place, x.find(place, 6, 1000, 1, 0), 48);
            CHECK.due("23: place " + place, x.misfit(place, 0), 9992);
        }
    }

    private static void whoseOfSeveral() {
        ValveShop x = new ValveShop();
        Shops.fill(x, 1, new int[48]);
        x.set(1, 7, 9);
        Shops.put(x, 4, Shops.SHUT);
        x.twin(2, 4);
        CHECK.due("25: of several the least place", x.whose(1, 0, 1000, 0), 2);
        CHECK.due("25: of several the least NOTCH", x.whose(1, 0, 1000, 1), -6);
        CHECK.due("25: how far", x.whose(1, 0, 1000, 2), 9);
        x.set(1, 7, -1);
        CHECK.due("25: not to be read", x.whose(1, 0, 1000, 2), 0);
        x.clear(2);
        CHECK.due("25: the one that is there", x.whose(1, 0, 1000, 0), 4);
        x.clear(4);
        CHECK.due("25: none: the place", x.whose(1, 0, 1000, 0), Check.NONE);
        CHECK.due("25: none: the NOTCH", x.whose(1, 0, 1000, 1), Check.NONE);
        CHECK.due("25: none: the sum", x.whose(1, 0, 1000, 2), Check.NONE);
        CHECK.due("25: NONE is no FINDING", x.status(), 0);
        x.set(1, 47, -2);
        CHECK.due("25: BAD ahead of NONE", x.whose(1, 0, 1000, 0), Check.BAD);
        CHECK.due("25: PLACE ahead of NONE", x.whose(1, 1, 1000, 0), Check.PLACE);
    }

    private static void whoseRefused() {
        ValveShop x = withCard();
        CHECK.due("25: SHEET 8", x.whose(8, 0, 0, 0), Check.BAD);
        CHECK.due("25: SHEET -1", x.whose(-1, 0, 0, 0), Check.BAD);
        CHECK.due("25: BOILER 2001", x.whose(1, 0, 2001, 0), Check.BAD);
        CHECK.due("25: BOILER -1", x.whose(3, 0, -1, 0), Check.BAD);
        CHECK.due("25: what 3", x.whose(1, 0, 0, 3), Check.BAD);
        CHECK.due("25: what -1", x.whose(1, 99, 0, -1), Check.BAD);
        CHECK.due("25: no SHEET", x.whose(3, 99, 0, 0), Check.NULL);
        CHECK.due("25: status", x.status(), 1);
        CHECK.due("25: from 1", x.whose(1, 1, 0, 0), Check.PLACE);
        CHECK.due("25: from -1", x.whose(1, -1, 0, 0), Check.PLACE);
        CHECK.due("25: from MIN", x.whose(1, Integer.MIN_VALUE, 0, 0), Check.PLACE);
        CHECK.due("25: status", x.status(), 2);
        x.set(1, 3, 5001);
        x.kind(3);
        CHECK.due("25: 5001", x.whose(1, 0, 0, 0), Check.BAD);
        CHECK.due("25: BAD leaves status", x.status(), 1);
    }

    private static void next() {
        ValveShop x = Shops.with(0, 100, 2, 0, 40, 0, 40, 50, 50, 10, 100);
        CHECK.due("26: nothing changes", x.next(0, 1, 6, 1000) >= -6 ? x.number(0, 11) : -1, 0);
        ValveShop y = Shops.plain();
        CHECK.due("26: next(0, 2, 2, 5)", y.next(0, 2, 2, 5), Check.BAD);
        CHECK.due("26: SICKNESS 13", y.next(0, 13, 2, 5), Check.BAD);
        CHECK.due("26: SICKNESS 13", y.next(0, 2, 13, 5), Check.BAD);
        CHECK.due("26: SICKNESS -1", y.next(0, -1, 2, 5), Check.BAD);
        CHECK.due("26: BOILER 2001", y.next(0, 1, 2, 2001), Check.BAD);
        CHECK.due("26: BOILER -1", y.next(0, 1, 2, -1), Check.BAD);
        CHECK.due("26: place 6", y.next(6, 1, 2, 5), Check.BAD);
        CHECK.due("26: empty", y.next(1, 1, 2, 5), Check.NULL);
        CHECK.due("26: empty, BAD first", y.next(1, 2, 2, 5), Check.BAD);
        CHECK.due("26: status", y.status(), 1);
        ValveShop far = Shops.with(0, 193, 7, -14, 20, 40, 21, 153, 49, 43, 173);
        CHECK.due("26: in NOTCH 6", far.next(0, 5, 4, 1000), 6);
        ValveShop shut = Shops.with(Shops.SHUT);
        CHECK.due("26: of several the least", shut.next(0, 1, 2, 1000), -6);
        CHECK.due("26: status", shut.status(), 0);
    }

    /** By all that card() tells. */
    private static void nextOfAll() {
        int[][] pairs = {{1, 6}, {9, 0}, {12, 10}, {4, 8}};
        for (int[] pair : pairs) {
            int best = 0;
            int most = -1;
            for (int notch = -6; notch <= 6; notch++) {
                ValveShop x = Shops.plain();
                x.sicken(0, pair[0]);
                int[] one = Shops.card(x, 0, notch, 1000);
                x.sicken(0, pair[1]);
                int[] two = Shops.card(x, 0, notch, 1000);
                int sum = 0;
                for (int k = 0; k < 48; k++) {
                    sum += Math.abs(one[k] - two[k]);
                }
                if (sum > most) {
                    most = sum;
                    best = notch;
                }
            }
            ValveShop x = Shops.plain();
            x.sicken(0, 3);
            CHECK.due("26: next", x.next(0, pair[0], pair[1], 1000), best);
            CHECK.due("26: either way", x.next(0, pair[1], pair[0], 1000), best);
            CHECK.due("26: its own stays", x.number(0, 11), 3);
        }
    }
}
