import java.util.Arrays;

/** Promises 22 to 26: each sentence that names an edge. */
public final class SickEdgesTest {
    private static final Check CHECK = new Check("edges of sick ones");
    private static final int MIN = Integer.MIN_VALUE, MAX = Integer.MAX_VALUE, UNREAD = -1;

    private SickEdgesTest() {
    }

    public static void main(String[] args) {
        CHECK.sentence("22: 48 ITEMS of a SHEET from i on, to its end: PLACE", SickEdgesTest::itemsOfCard);
        CHECK.sentence("22: BAD: an ITEM is below -1, or above 5000, from the first to the last of 48", SickEdgesTest::badItems);
        CHECK.sentence("22: no other ITEM is looked at", SickEdgesTest::otherItems);
        CHECK.sentence("22: how many PLACES can be read, 0 to 48", SickEdgesTest::readable);
        CHECK.sentence("22: with a NOTCH of -6 to 6, BOILER 0 to 2000 and REGULATOR 4", SickEdgesTest::notchAndBoiler);
        CHECK.sentence("22: another one comes in place of it", SickEdgesTest::inPlaceOfIt);
        CHECK.sentence("22: it is kept when its SHEET is changed or dropped", SickEdgesTest::sheetGone);
        CHECK.sentence("22: by adjust(), sicken(), tune() it stays", SickEdgesTest::stays);
        CHECK.sentence("22: it goes when the place is empty", SickEdgesTest::goesByClear);
        CHECK.sentence("22: it goes when engine() puts an ENGINE there", SickEdgesTest::goesByEngine);
        CHECK.sentence("22: it goes when twin() puts an ENGINE there, not where that is like", SickEdgesTest::goesByTwin);
        CHECK.sentence("22: each place keeps its own", SickEdgesTest::eachItsOwn);
        CHECK.sentence("23: over all PLACES that can be read, 0 to 47", SickEdgesTest::misfitOfPlaces);
        CHECK.sentence("23: -1 is not to be read, 0 is", SickEdgesTest::unreadAndNothing);
        CHECK.sentence("23: how far, more or less, added", SickEdgesTest::howFar);
        CHECK.sentence("23: by the ENGINE with that SICKNESS, 0 to 12, in place of its own", SickEdgesTest::inPlaceOfItsOwn);
        CHECK.sentence("23: STATE: none is kept there; it leaves status()", SickEdgesTest::stateOfMisfit);
        CHECK.sentence("24: of several the least number", SickEdgesTest::namedOfSeveral);
        CHECK.sentence("24: each SICKNESS, 0 to 12, can be NAMED", SickEdgesTest::namedEach);
        CHECK.sentence("24: how many others have a MISFIT of at most the least one and a told number", SickEdgesTest::doubtAtMost);
        CHECK.sentence("24: a number of 0 to 100000; else it is not looked at", SickEdgesTest::doubtNumbers);
        CHECK.sentence("25: 48 ITEMS from i on, each -1 to 5000", SickEdgesTest::itemsOfWhose);
        CHECK.sentence("25: of all ENGINES, places 0 to 5", SickEdgesTest::whosePlaces);
        CHECK.sentence("25: in all NOTCHES, -6 to 6", SickEdgesTest::whoseNotches);
        CHECK.sentence("25: as they are, END 0, by a BOILER and REGULATOR 4", SickEdgesTest::whoseAsTheyAre);
        CHECK.sentence("25: of several the least place, then the least NOTCH", SickEdgesTest::whoseOfSeveral);
        CHECK.sentence("25: PLACES 0 and 47 count, what is not to be read doesn't", SickEdgesTest::whoseOfPlaces);
        CHECK.sentence("25: NONE: THE SHELF is empty", SickEdgesTest::whoseOfNone);
        CHECK.sentence("26: NOTCH -6 to 6", SickEdgesTest::nextEnds);
        CHECK.sentence("26: of several the least", SickEdgesTest::nextOfSeveral);
        CHECK.sentence("26: all PLACES added, 0 and 47, too", SickEdgesTest::nextOfPlaces);
        CHECK.sentence("26: CARDS of END 0, by a BOILER and REGULATOR 4", SickEdgesTest::nextOfHead);
        CHECK.sentence("26: two unlike SICKNESSES, 0 to 12, whatever its own is", SickEdgesTest::nextOfUnlike);
        CHECK.sentence("23, 24, 25, 26: nothing changes", SickEdgesTest::nothingChanges);
        CHECK.end();
    }

    private static int[] unread() {
        int[] row = new int[48];
        Arrays.fill(row, UNREAD);
        return row;
    }

    /** A plain ENGINE at place 0 and this row in SHEET 1. */
    private static ValveShop with(int[] row) {
        ValveShop x = Shops.plain();
        Shops.fill(x, 1, row);
        return x;
    }

    /** The FOUND CARD is of NOTCH 6 and BOILER 1000. */
    private static ValveShop found(int[] row) {
        ValveShop x = with(row);
        x.find(0, 6, 1000, 1, 0);
        return x;
    }

    /** A row of which one PLACE alone can be read. */
    private static int[] readAt(int place, int v) {
        int[] row = unread();
        row[place] = v;
        return row;
    }

    private static void itemsOfCard() {
        for (int n : new int[] {48, 49, 60}) {
            ValveShop x = with(new int[n]);
            CHECK.due("the last 48 of " + n, x.find(0, 6, 1000, 1, n - 48), 48);
            CHECK.due("one further", x.find(0, 6, 1000, 1, n - 47), Check.PLACE);
            CHECK.due("ahead of the first", x.find(0, 6, 1000, 1, -1), Check.PLACE);
            CHECK.due("MAX", x.find(0, 6, 1000, 1, MAX), Check.PLACE);
            CHECK.due("MAX - 47", x.find(0, 6, 1000, 1, MAX - 47), Check.PLACE);
            CHECK.due("MIN", x.find(0, 6, 1000, 1, MIN), Check.PLACE);
            CHECK.due("status()", x.status(), 2);
        }
        CHECK.due("47 ITEMS", with(new int[47]).find(0, 6, 1000, 1, 0), Check.PLACE);
        int[] row = new int[60];
        row[12] = 211;
        row[11] = 4000;
        ValveShop x = with(row);
        x.find(0, 6, 1000, 1, 12);
        int rest = x.misfit(0, 0);
        row[12] = 212;
        ValveShop y = with(row);
        y.find(0, 6, 1000, 1, 12);
        CHECK.due("ITEM i is PLACE 0", y.misfit(0, 0), rest + 1);
    }

    private static void badItems() {
        int[] taken = {-1, 0, 1, 4999, 5000};
        int[] bad = {-2, 5001, MIN, MAX};
        for (int at : new int[] {0, 1, 23, 46, 47}) {
            ValveShop x = with(new int[48]);
            for (int v : taken) {
                x.set(1, at, v);
                CHECK.due("ITEM " + at + " is " + v, x.find(0, 6, 1000, 1, 0), v == -1 ? 47 : 48);
            }
            int was = x.misfit(0, 0);
            x.kind(1);
            for (int v : bad) {
                x.set(1, at, v);
                x.kind(1);
                CHECK.due("ITEM " + at + " is " + v, x.find(0, 6, 1000, 1, 0), Check.BAD);
                CHECK.due("status()", x.status(), 1);
            }
            CHECK.due("the other one is kept yet", x.misfit(0, 0), was);
        }
    }

    private static void otherItems() {
        ValveShop x = with(new int[60]);
        x.set(1, 5, MIN);
        x.set(1, 54, MAX);
        CHECK.due("find from 6 on", x.find(0, 6, 1000, 1, 6), 48);
        CHECK.due("whose from 6 on", x.whose(1, 6, 1000, 0), 0);
        CHECK.due("find from 5 on", x.find(0, 6, 1000, 1, 5), Check.BAD);
        CHECK.due("whose from 5 on", x.whose(1, 5, 1000, 0), Check.BAD);
        CHECK.due("find from 7 on", x.find(0, 6, 1000, 1, 7), Check.BAD);
        CHECK.due("whose from 7 on", x.whose(1, 7, 1000, 0), Check.BAD);
    }

    private static void readable() {
        int[] row = new int[48];
        CHECK.due("all", with(row).find(0, 6, 1000, 1, 0), 48);
        row[0] = UNREAD;
        CHECK.due("not the first", with(row).find(0, 6, 1000, 1, 0), 47);
        row[47] = UNREAD;
        CHECK.due("nor the last", with(row).find(0, 6, 1000, 1, 0), 46);
        CHECK.due("the last alone", with(readAt(47, 0)).find(0, 6, 1000, 1, 0), 1);
        CHECK.due("none", with(unread()).find(0, 6, 1000, 1, 0), 0);
        CHECK.due("none is a CARD, too", found(unread()).count(6), 1);
        CHECK.due("by none there is no MISFIT", found(unread()).misfit(0, 9), 0);
    }

    private static void notchAndBoiler() {
        int[][] asked = {{-6, 1000}, {6, 1000}, {0, 1000}, {3, 0}, {3, 2000}, {3, 1}, {3, 1999}};
        for (int[] a : asked) {
            ValveShop drawn = Shops.plain();
            int[] row = Shops.card(drawn, 0, a[0], a[1]);
            ValveShop x = with(row);
            CHECK.due("find in NOTCH " + a[0] + ", BOILER " + a[1], x.find(0, a[0], a[1], 1, 0), 48);
            CHECK.due("it is just that", x.misfit(0, 0), 0);
            CHECK.due("NAMED is none", x.named(0, 0, 0), 0);
        }
        ValveShop x = with(new int[48]);
        int[][] bad = {{-7, 1000}, {7, 1000}, {3, -1}, {3, 2001}};
        for (int[] a : bad) {
            CHECK.due("find in NOTCH " + a[0] + ", BOILER " + a[1], x.find(0, a[0], a[1], 1, 0), Check.BAD);
        }
        CHECK.due("none is kept", x.count(6), 0);
    }

    private static void inPlaceOfIt() {
        ValveShop x = found(readAt(0, 200));
        CHECK.due("the first one", x.misfit(0, 0), 11);
        x.set(1, 0, 211);
        CHECK.due("the second one", x.find(0, 6, 1000, 1, 0), 1);
        CHECK.due("count(6)", x.count(6), 1);
        CHECK.due("the second one", x.misfit(0, 0), 0);
        x.find(0, 6, 0, 1, 0);
        CHECK.due("the third one, by another BOILER", x.misfit(0, 0), Math.abs(x.card(0, 6, 0, 4, 0, 0) - 211));
        x.find(0, -6, 1000, 1, 0);
        CHECK.due("the fourth one, in another NOTCH", x.misfit(0, 0), Math.abs(x.card(0, -6, 1000, 4, 0, 0) - 211));
    }

    private static void sheetGone() {
        ValveShop x = found(readAt(0, 200));
        x.set(1, 0, 9);
        CHECK.due("the SHEET is changed", x.misfit(0, 0), 11);
        x.sheet(1, 0, 0);
        CHECK.due("another SHEET in its place", x.misfit(0, 0), 11);
        x.drop(1);
        CHECK.due("the SHEET is missing", x.misfit(0, 0), 11);
    }

    private static void stays() {
        ValveShop x = found(readAt(0, 200));
        for (int which = 0; which < 11; which++) {
            x.adjust(0, which, Shops.PLAIN[which]);
            CHECK.due("by adjust()", x.misfit(0, 0), 11);
        }
        for (int sickness = 0; sickness <= 12; sickness++) {
            x.sicken(0, sickness);
            CHECK.due("by sicken()", x.misfit(0, 0), 11);
        }
        x.sicken(0, 0);
        x.tune(0);
        CHECK.due("by tune()", x.count(6), 1);
        CHECK.due("by the ENGINE as it is then", x.misfit(0, 0), Math.abs(x.card(0, 6, 1000, 4, 0, 0) - 200));
        x.adjust(0, 10, 0);
        CHECK.due("by the ENGINE as it is then", x.misfit(0, 0), Math.abs(x.card(0, 6, 1000, 4, 0, 0) - 200));
    }

    private static void goesByClear() {
        ValveShop x = found(readAt(0, 200));
        x.clear(0);
        CHECK.due("count(6)", x.count(6), 0);
        CHECK.due("misfit", x.misfit(0, 0), Check.STATE);
        Shops.put(x, 0, Shops.PLAIN);
        CHECK.due("an ENGINE comes", x.misfit(0, 0), Check.STATE);
        CHECK.due("named", x.named(0, 0, 0), Check.STATE);
        CHECK.due("count(6)", x.count(6), 0);
    }

    private static void goesByEngine() {
        ValveShop x = found(readAt(0, 200));
        Shops.fill(x, 0, Shops.PLAIN);
        x.engine(0, 0, 1);
        x.engine(0, 5, 0);
        x.engine(1, 0, 0);
        CHECK.due("refused, or at another place", x.misfit(0, 0), 11);
        x.engine(0, 0, 0);
        CHECK.due("count(6)", x.count(6), 0);
        CHECK.due("misfit", x.misfit(0, 0), Check.STATE);
    }

    private static void goesByTwin() {
        ValveShop x = found(readAt(0, 200));
        x.twin(1, 0);
        CHECK.due("it is the one that the other is like", x.misfit(0, 0), 11);
        x.twin(0, 3);
        CHECK.due("found NULL", x.misfit(0, 0), 11);
        x.twin(0, 1);
        CHECK.due("count(6)", x.count(6), 0);
        CHECK.due("misfit", x.misfit(0, 0), Check.STATE);
    }

    private static void eachItsOwn() {
        ValveShop x = with(readAt(0, 0));
        for (int place = 0; place < 6; place++) {
            x.twin(place == 0 ? 5 : place, 0);
        }
        for (int place = 0; place < 6; place++) {
            x.set(1, 0, 211 + place);
            x.find(place, 6, 1000, 1, 0);
            CHECK.due("count(6)", x.count(6), place + 1);
        }
        for (int place = 0; place < 6; place++) {
            CHECK.due("misfit(" + place + ", 0)", x.misfit(place, 0), place);
        }
        x.clear(3);
        for (int place = 0; place < 6; place++) {
            CHECK.due("misfit(" + place + ", 0) without 3", x.misfit(place, 0), place == 3 ? Check.STATE : place);
        }
    }

    private static void misfitOfPlaces() {
        // the CARD is 211 at PLACE 0 and 196 at PLACE 47
        CHECK.due("PLACE 0 alone", found(readAt(0, 200)).misfit(0, 0), 11);
        CHECK.due("PLACE 47 alone", found(readAt(47, 200)).misfit(0, 0), 4);
        int[] row = readAt(0, 200);
        row[47] = 200;
        CHECK.due("both", found(row).misfit(0, 0), 15);
        int[] drawn = Shops.card(Shops.plain(), 0, 6, 1000);
        for (int k = 0; k < 48; k++) {
            int[] off = drawn.clone();
            off[k] += 3;
            CHECK.due("PLACE " + k, found(off).misfit(0, 0), 3);
        }
    }

    private static void unreadAndNothing() {
        CHECK.due("-1", found(readAt(0, -1)).misfit(0, 0), 0);
        CHECK.due("0", found(readAt(0, 0)).misfit(0, 0), 211);
        CHECK.due("1", found(readAt(0, 1)).misfit(0, 0), 210);
        CHECK.due("5000", found(readAt(0, 5000)).misfit(0, 0), 5000 - 211);
    }

    private static void howFar() {
        CHECK.due("one less", found(readAt(0, 210)).misfit(0, 0), 1);
        CHECK.due("as much", found(readAt(0, 211)).misfit(0, 0), 0);
        CHECK.due("one more", found(readAt(0, 212)).misfit(0, 0), 1);
        int[] row = readAt(0, 201);
        row[47] = 206;
        CHECK.due("more and less are not set off", found(row).misfit(0, 0), 20);
    }

    private static void inPlaceOfItsOwn() {
        int[] due = {9992, 11157, 12616, 14347, 9118, 8465, 8047, 9576, 9500, 10634, 8789, 8896, 8913};
        int[] card = {500, 520, 540, 600, 700, 800, 850, 900, 920, 900, 800, 700, 600, 520, 450, 400, 350, 320, 300, 280, 260, 240, 220,
            200, 180, 160, 150, 140, 130, 120, 110, 100, 100, 100, 100, 100, 100, 110, 120, 130, 150, 180, 220, 260, 300, 350, 400, 450};
        ValveShop x = found(card);
        for (int own : new int[] {0, 3, 6, 9, 12}) {
            x.sicken(0, own);
            for (int sickness = 0; sickness <= 12; sickness++) {
                CHECK.due("misfit(0, " + sickness + ") of one with " + own, x.misfit(0, sickness), due[sickness]);
            }
            CHECK.due("its own stays", x.number(0, 11), own);
        }
        CHECK.due("misfit(0, 13)", x.misfit(0, 13), Check.BAD);
        CHECK.due("misfit(0, -1)", x.misfit(0, -1), Check.BAD);
    }

    private static void stateOfMisfit() {
        ValveShop x = found(readAt(0, 200));
        x.twin(1, 0);
        x.as(0, 4);
        CHECK.due("no FOUND CARD", x.misfit(1, 0), Check.STATE);
        CHECK.due("no ENGINE", x.misfit(5, 12), Check.STATE);
        CHECK.due("no FOUND CARD", x.named(1, 0, 0), Check.STATE);
        CHECK.due("no ENGINE", x.named(5, 2, 0), Check.STATE);
        CHECK.due("status()", x.status(), 3);
        CHECK.due("one is kept", x.misfit(0, 0), 11);
        CHECK.due("status()", x.status(), 0);
        x.as(0, 4);
        CHECK.due("one is kept", x.named(0, 1, 0) >= 0 ? 1 : 0, 1);
        CHECK.due("status()", x.status(), 0);
    }

    private static void namedOfSeveral() {
        int[][] due = {
            // PLACE, what is found there, NAMED, how many others have no MISFIT, either
            {44, 109, 1, 2}, {6, 947, 4, 3}, {16, 981, 2, 1}, {22, 883, 1, 1}, {25, 101, 5, 1}};
        for (int[] row : due) {
            ValveShop x = found(readAt(row[0], row[1]));
            String told = "at PLACE " + row[0];
            CHECK.due("NAMED " + told, x.named(0, 0, 0), row[2]);
            CHECK.due("its MISFIT " + told, x.named(0, 1, 0), 0);
            CHECK.due("DOUBT " + told, x.named(0, 2, 0), row[3]);
        }
        CHECK.due("of all the first: none", found(unread()).named(0, 0, 0), 0);
        CHECK.due("12 others", found(unread()).named(0, 2, 0), 12);
    }

    private static void namedEach() {
        for (int sickness = 0; sickness <= 12; sickness++) {
            ValveShop drawn = Shops.plain();
            drawn.sicken(0, sickness);
            ValveShop x = found(Shops.card(drawn, 0, 6, 1000));
            CHECK.due("NAMED", x.named(0, 0, 0), sickness);
            CHECK.due("its MISFIT", x.named(0, 1, 0), 0);
            CHECK.due("its own stays", x.number(0, 11), 0);
        }
    }

    private static void doubtAtMost() {
        int[] row = Shops.card(Shops.plain(), 0, 6, 1000);
        for (int k = 0; k < 48; k += 5) {
            row[k] += 40 - k;
        }
        ValveShop x = found(row);
        int[] misfits = new int[13];
        int least = MAX;
        for (int sickness = 0; sickness <= 12; sickness++) {
            misfits[sickness] = x.misfit(0, sickness);
            least = Math.min(least, misfits[sickness]);
        }
        CHECK.due("the least MISFIT", x.named(0, 1, 0), least);
        for (int misfit : misfits) {
            for (int number = Math.max(0, misfit - least - 1); number <= misfit - least + 1; number++) {
                int others = -1;
                for (int other : misfits) {
                    others += other <= least + number ? 1 : 0;
                }
                CHECK.due("DOUBT by " + number, x.named(0, 2, number), others);
            }
        }
    }

    private static void doubtNumbers() {
        ValveShop x = found(readAt(0, 200));
        CHECK.due("by 0", x.named(0, 2, 0), 3);
        CHECK.due("by 100000", x.named(0, 2, 100000), 12);
        CHECK.due("by -1", x.named(0, 2, -1), Check.BAD);
        CHECK.due("by 100001", x.named(0, 2, 100001), Check.BAD);
        CHECK.due("by MIN", x.named(0, 2, MIN), Check.BAD);
        CHECK.due("by MAX", x.named(0, 2, MAX), Check.BAD);
        for (int number : new int[] {-1, 100001, MIN, MAX}) {
            CHECK.due("NAMED, whatever the number", x.named(0, 0, number), x.named(0, 0, 0));
            CHECK.due("its MISFIT, whatever the number", x.named(0, 1, number), x.named(0, 1, 0));
        }
        // by a LEAK what is shut in is pressed so far that 100000 is not enough: 154406, 152763, 120779
        ValveShop y = Shops.with(Shops.SHUT);
        Shops.fill(y, 1, new int[48]);
        y.find(0, 6, 1000, 1, 0);
        CHECK.due("MISFIT of 9", y.misfit(0, 9), 120779);
        CHECK.due("by 100000, of which three are farther", y.named(0, 2, 100000), 9);
    }

    private static void itemsOfWhose() {
        for (int n : new int[] {48, 49, 60}) {
            ValveShop x = with(new int[n]);
            CHECK.due("the last 48 of " + n, x.whose(1, n - 48, 1000, 0), 0);
            CHECK.due("one further", x.whose(1, n - 47, 1000, 0), Check.PLACE);
            CHECK.due("ahead of the first", x.whose(1, -1, 1000, 0), Check.PLACE);
            CHECK.due("MAX", x.whose(1, MAX, 1000, 0), Check.PLACE);
            CHECK.due("MIN", x.whose(1, MIN, 1000, 0), Check.PLACE);
            CHECK.due("status()", x.status(), 2);
        }
        for (int at : new int[] {0, 47}) {
            ValveShop x = with(new int[48]);
            int[][] due = {{-1, 0}, {5000, 0}, {0, 0}, {-2, Check.BAD}, {5001, Check.BAD}, {MIN, Check.BAD}, {MAX, Check.BAD}};
            for (int[] pair : due) {
                x.set(1, at, pair[0]);
                CHECK.due("ITEM " + at + " is " + pair[0], x.whose(1, 0, 1000, 0), pair[1]);
            }
        }
    }

    private static void whosePlaces() {
        for (int place = 0; place < 6; place++) {
            ValveShop x = new ValveShop();
            Shops.put(x, place, Shops.PLAIN);
            Shops.fill(x, 1, Shops.card(x, place, 2, 900));
            for (int other = 0; other < 6; other++) {
                if (other != place) {
                    x.twin(other, place);
                    x.adjust(other, 10, 300);
                }
            }
            CHECK.due("the place", x.whose(1, 0, 900, 0), place);
            CHECK.due("the NOTCH", x.whose(1, 0, 900, 1), 2);
            CHECK.due("the sum", x.whose(1, 0, 900, 2), 0);
        }
    }

    private static void whoseNotches() {
        for (int notch = -6; notch <= 6; notch++) {
            ValveShop x = Shops.plain();
            Shops.fill(x, 1, Shops.card(x, 0, notch, 900));
            CHECK.due("the NOTCH", x.whose(1, 0, 900, 1), notch);
            CHECK.due("the sum", x.whose(1, 0, 900, 2), 0);
        }
    }

    private static void whoseAsTheyAre() {
        ValveShop x = Shops.plain();
        x.twin(4, 0);
        x.sicken(4, 9);
        Shops.fill(x, 1, Shops.card(x, 4, 5, 1000));
        CHECK.due("the one with that SICKNESS", x.whose(1, 0, 1000, 0), 4);
        CHECK.due("its NOTCH", x.whose(1, 0, 1000, 1), 5);
        CHECK.due("it is just that", x.whose(1, 0, 1000, 2), 0);
        CHECK.holds("by another BOILER it is not", x.whose(1, 0, 999, 2) > 0);
        int[] other = new int[48];
        int[] half = new int[48];
        for (int k = 0; k < 48; k++) {
            other[k] = x.card(0, 5, 1000, 4, 1, k);
            half[k] = x.card(0, 5, 1000, 3, 0, k);
        }
        Shops.fill(x, 2, other);
        CHECK.holds("END 1 is another CARD", x.whose(2, 0, 1000, 2) > 0);
        Shops.fill(x, 2, half);
        CHECK.holds("REGULATOR 3 is another CARD", x.whose(2, 0, 1000, 2) > 0);
        CHECK.due("it is that by BOILER 750", x.whose(2, 0, 750, 2), 0);
        CHECK.due("BOILER 0", x.whose(2, 0, 0, 0) >= 0 ? 1 : 0, 1);
        CHECK.due("BOILER 2000", x.whose(2, 0, 2000, 0) >= 0 ? 1 : 0, 1);
    }

    private static void whoseOfSeveral() {
        ValveShop shut = new ValveShop();
        Shops.put(shut, 5, Shops.SHUT);
        Shops.fill(shut, 1, new int[48]);
        CHECK.due("the only place", shut.whose(1, 0, 1000, 0), 5);
        CHECK.due("the least NOTCH", shut.whose(1, 0, 1000, 1), -6);
        for (int place = 4; place >= 0; place--) {
            shut.twin(place, 5);
            CHECK.due("the least place", shut.whose(1, 0, 1000, 0), place);
            CHECK.due("the least NOTCH", shut.whose(1, 0, 1000, 1), -6);
        }
        // THROW 50 in NOTCH 6 moves as THROW 100 in NOTCH 3
        int[] short6 = {0, 50, 0, 0, 20, 0, 40, 50, 10, 10, 100};
        int[] long3 = {0, 100, 0, 0, 20, 0, 40, 50, 10, 10, 100};
        ValveShop x = Shops.with(short6);
        Shops.put(x, 1, long3);
        Shops.fill(x, 1, Shops.card(x, 0, 6, 1000));
        CHECK.due("the least place", x.whose(1, 0, 1000, 0), 0);
        CHECK.due("though the NOTCH is greater", x.whose(1, 0, 1000, 1), 6);
        CHECK.due("just that", x.whose(1, 0, 1000, 2), 0);
        x.twin(2, 0);
        x.clear(0);
        CHECK.due("the least place", x.whose(1, 0, 1000, 0), 1);
        CHECK.due("its NOTCH", x.whose(1, 0, 1000, 1), 3);
    }

    private static void whoseOfPlaces() {
        ValveShop x = new ValveShop();
        Shops.put(x, 3, Shops.SHUT);
        Shops.fill(x, 1, new int[48]);
        int[][] due = {{0, 7, 7}, {47, 9, 16}, {23, 5000, 5016}, {23, -1, 16}, {0, -1, 9}, {47, -1, 0}};
        for (int[] row : due) {
            x.set(1, row[0], row[1]);
            CHECK.due("PLACE " + row[0] + " is " + row[1], x.whose(1, 0, 1000, 2), row[2]);
        }
    }

    private static void whoseOfNone() {
        ValveShop x = with(new int[48]);
        CHECK.due("one", x.whose(1, 0, 1000, 0), 0);
        x.clear(0);
        x.kind(0);
        for (int what = 0; what < 3; what++) {
            CHECK.due("none", x.whose(1, 0, 1000, what), Check.NONE);
            CHECK.due("status()", x.status(), 0);
        }
        CHECK.due("what 3", x.whose(1, 0, 1000, 3), Check.BAD);
        CHECK.due("what -1", x.whose(1, 0, 1000, -1), Check.BAD);
    }

    private static void nextIs(int due, int one, int two, int... numbers) {
        CHECK.due("next between " + one + " and " + two, Shops.with(numbers).next(0, one, two, 1000), due);
        CHECK.due("next between " + two + " and " + one, Shops.with(numbers).next(0, two, one, 1000), due);
    }

    private static void nextEnds() {
        nextIs(6, 3, 7, 0, 158, 9, 20, 24, 27, 13, 160, 92, 9, 288);
        nextIs(6, 4, 7, 4, 152, 9, 0, 43, 24, 77, 147, 75, 59, 35);
        nextIs(-6, 8, 10, 12, 22, 3, -18, 71, -3, 38, 127, 19, 70, 60);
        nextIs(5, 1, 6, 18, 169, 5, 12, 21, -2, 45, 92, 21, 67, 87);
        nextIs(-5, 1, 7, 18, 91, 2, 12, 79, -14, 59, 194, 72, 51, 203);
    }

    private static void nextOfSeveral() {
        nextIs(-6, 1, 2, Shops.SHUT);
        nextIs(-6, 0, 9, 13, 27, 3, -15, 70, 34, 8, 164, 16, 29, 322);
        nextIs(-3, 9, 2, 0, 25, 3, -16, 26, 36, 21, 48, 44, 77, 26);
        nextIs(-4, 4, 7, 4, 39, 7, 9, 61, 41, 40, 41, 19, 14, 383);
        // in most NOTCHES there is no difference, in the others it is 1 in all
        CHECK.due("farther by 1", Shops.with(0, 43, 6, -19, 31, 45, 67, 139, 26, 57, 0).next(0, 3, 2, 3), -4);
        CHECK.due("farther by 1", Shops.with(19, 26, 6, 3, 89, 7, 98, 171, 68, 69, 5).next(0, 11, 2, 1), -5);
        CHECK.due("several by 1", Shops.with(11, 135, 8, 4, 85, 11, 32, 61, 72, 9, 2).next(0, 4, 0, 1), 0);
    }

    private static void nextOfPlaces() {
        // without PLACE 0 these were -6 and 6, without PLACE 47 they were 6 and 4
        nextIs(-5, 1, 7, 18, 91, 2, 12, 79, -14, 59, 194, 72, 51, 203);
        nextIs(-6, 1, 10, 0, 93, 5, 9, 46, -10, 66, 70, 51, 97, 81);
        nextIs(-6, 12, 7, 7, 108, 6, 8, 55, 19, 3, 52, 5, 55, 363);
        nextIs(5, 1, 6, 18, 169, 5, 12, 21, -2, 45, 92, 21, 67, 87);
    }

    private static void nextOfHead() {
        // END 1 would tell 5 and 5
        nextIs(3, 0, 1, 10, 48, 6, -17, 9, 48, 13, 113, 75, 8, 465);
        nextIs(-6, 8, 10, 12, 22, 3, -18, 71, -3, 38, 127, 19, 70, 60);
        // REGULATOR 3 would tell -2, 6 and -3
        nextIs(-3, 1, 9, 17, 119, 5, 9, 74, 38, 47, 96, 32, 24, 357);
        nextIs(5, 7, 6, 16, 136, 5, 8, 36, -11, 16, 151, 54, 22, 387);
        nextIs(-6, 12, 10, 12, 128, 6, -15, 92, 0, 22, 52, 4, 20, 302);
        ValveShop x = Shops.with(17, 119, 5, 9, 74, 38, 47, 96, 32, 24, 357);
        CHECK.due("BOILER 750", x.next(0, 1, 9, 750), -2);
        CHECK.due("BOILER 0", x.next(0, 1, 9, 0) >= -6 ? 1 : 0, 1);
        CHECK.due("BOILER 2000", x.next(0, 1, 9, 2000) >= -6 ? 1 : 0, 1);
        CHECK.due("BOILER -1", x.next(0, 1, 9, -1), Check.BAD);
        CHECK.due("BOILER 2001", x.next(0, 1, 9, 2001), Check.BAD);
    }

    private static void nextOfUnlike() {
        ValveShop x = Shops.plain();
        for (int one = 0; one <= 12; one++) {
            CHECK.due("next(0, " + one + ", " + one + ", 5)", x.next(0, one, one, 5), Check.BAD);
        }
        CHECK.due("next(0, 13, 0, 5)", x.next(0, 13, 0, 5), Check.BAD);
        CHECK.due("next(0, 0, 13, 5)", x.next(0, 0, 13, 5), Check.BAD);
        CHECK.due("next(0, -1, 0, 5)", x.next(0, -1, 0, 5), Check.BAD);
        CHECK.due("next(0, 0, -1, 5)", x.next(0, 0, -1, 5), Check.BAD);
        for (int own = 0; own <= 12; own++) {
            x.sicken(0, own);
            CHECK.due("next(0, 1, 6, 1000) of one with " + own, x.next(0, 1, 6, 1000), -3);
            CHECK.due("next(0, 9, 0, 1000) of one with " + own, x.next(0, 9, 0, 1000), -1);
            CHECK.due("its own stays", x.number(0, 11), own);
        }
    }

    private static void nothingChanges() {
        ValveShop x = Full.shop();
        x.misfit(0, 12);
        x.named(5, 0, 0);
        x.named(5, 2, 7);
        x.whose(0, 0, 1500, 0);
        x.next(2, 0, 9, 800);
        CHECK.due("status()", x.status(), 0);
        x.as(0, 4);
        CHECK.dueRow("all", Full.all(x), Full.all(Full.shop()));
    }
}
