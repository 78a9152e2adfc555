/** All promises: long runs of mixed calls, each answer as the document's words, once more written down, give it. */
public final class ReferenceTest {
    private static final Check CHECK = new Check("reference");
    private static final int RUNS = 500;
    /** A step may make 170 calls more, and an object is used for 512 at most. */
    private static final int CALLS = 340;
    private static final int[] LEAST = {4, 10, 0, -20, 0, -20, 1, 20, 1, 1, 0};
    private static final int[] MOST = {20, 200, 11, 20, 100, 50, 100, 200, 100, 100, 500};
    private static final int[] EDGES = {Integer.MIN_VALUE, Integer.MAX_VALUE, -1, 61, 6, 8, 2001, 1001, -1001, 48,
        Integer.MAX_VALUE - 10, 13, 100001};

    private static long seed;
    private static int run;
    private static boolean wild;
    private static ValveShop x;
    private static ReferenceShop y;
    private static int calls;

    private ReferenceTest() {
    }

    public static void main(String[] args) {
        for (run = 0; run < RUNS; run++) {
            seed = 77L * run + 5;
            wild = run % 4 == 3;
            x = new ValveShop();
            y = new ReferenceShop();
            calls = 0;
            while (calls < CALLS) {
                step();
            }
        }
        CHECK.end();
    }

    private static int below(int n) {
        seed = seed * 6364136223846793005L + 1442695040888963407L;
        return (int) ((seed >>> 33) % n);
    }

    private static int from(int low, int high) {
        return low + below(high - low + 1);
    }

    /** Mostly a number that is right, at times an edge or beyond one. */
    private static int some(int low, int high) {
        switch (below(wild ? 10 : 100)) {
            case 0: return low - 1;
            case 1: return high + 1;
            case 2: return EDGES[below(EDGES.length)];
            case 3: return low;
            case 4: return high;
            default: return from(low, high);
        }
    }

    private static int place() {
        // few places, so that they are seldom empty and often changed
        return some(0, below(4) == 0 ? 5 : 2);
    }

    private static int notch() {
        return some(-6, 6);
    }

    private static int boiler() {
        return below(3) == 0 ? 1000 : some(0, 2000);
    }

    private static void due(String call, int got, int want) {
        calls++;
        CHECK.due("run " + run + ", call " + calls + ": " + call, got, want);
    }

    private static void sheet(int sheet, int lane, int n) {
        due("sheet(" + sheet + ", " + lane + ", " + n + ")", x.sheet(sheet, lane, n), y.sheet(sheet, lane, n));
    }

    private static void set(int sheet, int i, int v) {
        due("set(" + sheet + ", " + i + ", " + v + ")", x.set(sheet, i, v), y.set(sheet, i, v));
    }

    private static void step() {
        int sort = below(100);
        if (sort < 3) {
            makeEngine();
        } else if (sort < 4) {
            makeCard();
        } else if (sort < 7) {
            makeRoad();
        } else if (sort < 18) {
            sheetCall();
        } else if (sort < 38) {
            engineCall();
        } else if (sort < 53) {
            valveCall();
        } else if (sort < 66) {
            cardCall();
        } else if (sort < 80) {
            askCall();
        } else {
            otherCall();
        }
        due("status()", x.status(), y.status());
    }

    private static void makeEngine() {
        int sheet = below(8);
        sheet(sheet, 1 + below(2), 11);
        boolean usual = below(2) == 0;
        for (int i = 0; i < 11; i++) {
            int v = usual ? Shops.PLAIN[i] + below(2) : from(LEAST[i], MOST[i]);
            if (i == 0 && (usual || below(3) == 0)) {
                v = 0;
            }
            set(sheet, i, wild && below(30) == 0 ? some(LEAST[i], MOST[i]) : v);
        }
        int place = place();
        due("engine", x.engine(place, sheet, 0), y.engine(place, sheet, 0));
    }

    /** A card of an engine, a bit off, or one of no engine. */
    private static void makeCard() {
        int sheet = below(8);
        sheet(sheet, 1 + below(2), 60);
        int place = below(3);
        int notch = from(-6, 6);
        boolean drawn = below(2) == 0 && y.shelf[place] != null;
        int sickness = below(13);
        for (int k = 0; k < 48; k++) {
            int v = below(1200);
            if (drawn) {
                v = ReferenceShop.draw(y.shelf[place].sick(sickness), notch, 1000, 4, 0).row()[k] + below(20);
            }
            set(sheet, k, below(12) == 0 ? -1 : wild && below(40) == 0 ? some(-1, 5000) : v);
        }
        due("find", x.find(place, notch, 1000, sheet, 0), y.find(place, notch, 1000, sheet, 0));
        for (int what = 0; what < 3; what++) {
            due("named", x.named(place, what, 500), y.named(place, what, 500));
            due("whose", x.whose(sheet, 0, 1000, what), y.whose(sheet, 0, 1000, what));
        }
    }

    private static void makeRoad() {
        int sheet = below(8);
        int n = 1 + below(10);
        sheet(sheet, 1 + below(2), 3 * n);
        for (int s = 0; s < n; s++) {
            set(sheet, 3 * s, wild ? some(1, 50) : below(2) == 0 ? from(1, 4) : from(1, 50));
            set(sheet, 3 * s + 1, wild ? some(0, 700) : below(2) == 0 ? 100 * below(8) : below(900));
            set(sheet, 3 * s + 2, wild ? some(0, 1) : below(2));
        }
        for (int i = 0; i < 3; i++) {
            runOn(place(), sheet, n);
        }
        due("count(7)", x.count(7), y.count(7));
    }

    private static void runOn(int place, int sheet, int n) {
        int boiler = 1000 + some(0, 1000);
        int minutes = below(3) == 0 ? some(0, 1000) : n * (5 + below(80));
        int got = x.run(place, boiler, minutes, sheet, 0, n);
        int want = y.run(place, boiler, minutes, sheet, 0, n);
        due("run(" + place + ", " + boiler + ", " + minutes + ", ..)", got, want);
        for (int s = 0; s <= n; s++) {
            for (int what = 0; what < 4; what++) {
                due("plan", x.plan(s, what), y.plan(s, what));
            }
        }
    }

    private static void sheetCall() {
        int a = some(0, 7);
        int b = below(3) == 0 ? a : some(0, 7);
        int i = some(0, 12);
        int j = some(0, 12);
        int n = some(0, 60);
        switch (below(8)) {
            case 0: sheet(a, some(0, 2), n); break;
            case 1: due("drop", x.drop(a), y.drop(a)); break;
            case 2: case 3: due("copy", x.copy(a, i, b, j, n / 5), y.copy(a, i, b, j, n / 5)); break;
            default: set(a, n, below(2) == 0 ? some(-40000, 70000) : below(500)); break;
        }
    }

    private static void engineCall() {
        int place = place();
        int other = place();
        int which = some(0, 10);
        int v = which >= 0 && which <= 10 ? some(LEAST[which], MOST[which]) : 1;
        int sickness = below(3) == 0 ? 0 : some(0, 12);
        int sheet = some(0, 7);
        int i = below(3) == 0 ? some(0, 40) : 0;
        switch (below(12)) {
            case 0: due("engine", x.engine(place, sheet, i), y.engine(place, sheet, i)); break;
            case 1: case 2: case 3: case 4:
                due("adjust", x.adjust(place, which, v), y.adjust(place, which, v)); break;
            case 5: case 6: due("sicken", x.sicken(place, sickness), y.sicken(place, sickness)); break;
            case 7: case 8: due("twin", x.twin(place, other), y.twin(place, other)); break;
            case 9: if (below(3) == 0) {
                    due("clear", x.clear(place), y.clear(place));
                }
                break;
            default: which = some(0, 11); due("number", x.number(place, which), y.number(place, which)); break;
        }
    }

    private static void valveCall() {
        int place = place();
        int notch = notch();
        int end = some(0, 1);
        int k = some(-1000, 1000);
        int what = some(0, 1);
        switch (below(9)) {
            case 0: due("piston", x.piston(place, k), y.piston(place, k)); break;
            case 1: case 2: due("valve", x.valve(place, notch, k), y.valve(place, notch, k)); break;
            case 3: case 4: due("open", x.open(place, notch, end, k, what), y.open(place, notch, end, k, what)); break;
            case 5: what = some(0, 3);
                due("event", x.event(place, notch, end, what), y.event(place, notch, end, what)); break;
            case 6: case 7: due("valves", x.valves(place, what), y.valves(place, what)); break;
            default: settingCall(place);
        }
    }

    private static void settingCall(int place) {
        if (below(4) == 0) {
            due("tune", x.tune(place), y.tune(place));
            return;
        }
        int what = some(0, 2);
        due("setting", x.setting(place, what), y.setting(place, what));
    }

    private static void cardCall() {
        int place = place();
        int notch = notch();
        int boiler = boiler();
        int r = some(0, 4);
        int end = some(0, 1);
        int k = some(0, 47);
        int what = some(0, 2);
        switch (below(3)) {
            case 0: due("card", x.card(place, notch, boiler, r, end, k), y.card(place, notch, boiler, r, end, k)); break;
            case 1: due("look", x.look(place, notch, boiler, r, end, what), y.look(place, notch, boiler, r, end, what)); break;
            default: due("work", x.work(place, notch, boiler, r, what), y.work(place, notch, boiler, r, what));
        }
    }

    private static void askCall() {
        int place = place();
        int kind = some(0, 4);
        int what = some(0, 1);
        switch (below(6)) {
            case 0: due("kind", x.kind(place), y.kind(place)); break;
            case 1: due("is", x.is(place, kind), y.is(place, kind)); break;
            case 2: due("as", x.as(place, kind), y.as(place, kind)); break;
            case 3: what = some(0, 7); due("count", x.count(what), y.count(what)); break;
            default:
                due("ask", x.ask(place, what), y.ask(place, what));
                for (int i = -1; i < 7; i++) {
                    due("trace(" + i + ")", x.trace(i), y.trace(i));
                }
        }
    }

    private static void otherCall() {
        int place = place();
        int sickness = some(0, 12);
        int another = some(0, 12);
        int what = some(0, 2);
        int sheet = some(0, 7);
        int i = some(0, 12);
        int number = below(2) == 0 ? some(0, 3000) : some(0, 100000);
        int boiler = boiler();
        int notch = notch();
        switch (below(12)) {
            case 0: due("find", x.find(place, notch, boiler, sheet, i), y.find(place, notch, boiler, sheet, i)); break;
            case 1: due("misfit", x.misfit(place, sickness), y.misfit(place, sickness)); break;
            case 2: due("named", x.named(place, what, number), y.named(place, what, number)); break;
            case 3: due("whose", x.whose(sheet, i, boiler, what), y.whose(sheet, i, boiler, what)); break;
            case 4: case 5:
                due("next", x.next(place, sickness, another, boiler), y.next(place, sickness, another, boiler)); break;
            case 6: what = some(0, 3); due("plan", x.plan(i, what), y.plan(i, what)); break;
            case 7: number = below(2) == 0 ? 1000 : some(1, 1000); due("stoke", x.stoke(number), y.stoke(number)); break;
            case 8: what = some(0, 5); due("fire", x.fire(what), y.fire(what)); break;
            case 9: sheetRun(place, boiler, sheet, i);
                break;
            default: what = some(0, 4); due("minute", x.minute(place, notch, what), y.minute(place, notch, what));
        }
    }

    private static void sheetRun(int place, int boiler, int sheet, int i) {
        int minutes = some(0, 1000);
        int n = some(1, 10);
        due("run", x.run(place, boiler, minutes, sheet, i, n), y.run(place, boiler, minutes, sheet, i, n));
    }
}
