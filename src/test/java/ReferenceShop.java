import java.util.ArrayList;
import java.util.Arrays;
import java.util.HashMap;
import java.util.List;
import java.util.Map;

/** The document once more, word by word and without regard to speed: what the class is compared with. */
final class ReferenceShop {
    static final int NONE = -1000000, BAD = -1000001, STATE = -1000002, FULL = -1000003;

    static final int[] QUARTER = {10000, 9914, 9659, 9239, 8660, 7934, 7071, 6088, 5000, 3827, 2588, 1305, 0};

    record Found(int notch, int boiler, int[] row) {
    }

    record Choice(int notch, int regulator, int minutes, int coal) {
    }

    record Card(int[] row, long drink) {
    }

    static final class Locomotive {
        final int[] n;
        final int sickness;

        Locomotive(int[] n, int sickness) {
            this.n = n;
            this.sickness = sickness;
        }

        Locomotive with(int which, int v) {
            int[] m = n.clone();
            m[which] = v;
            return new Locomotive(m, sickness);
        }

        Locomotive sick(int s) {
            return new Locomotive(n, s);
        }
    }

    final long[][] sheets = new long[8][];
    final int[] lanes = new int[8];
    final Locomotive[] shelf = new Locomotive[6];
    final Found[] found = new Found[6];
    List<Choice> kept = new ArrayList<>();
    final List<Integer> bodies = new ArrayList<>();
    int heap, gauge, burnt, drunk, blown, minutes;
    int status;

    private int finding(int n) {
        status = n;
        return -1000010 - n;
    }

    private int ok(int answer) {
        status = 0;
        return answer;
    }

    private static boolean out(int v, int low, int high) {
        return v < low || v > high;
    }

    int sheet(int sheet, int lane, int n) {
        if (out(sheet, 0, 7) || out(lane, 0, 2) || n > 60) return BAD;
        if (n < 0) return finding(4);
        sheets[sheet] = new long[n];
        lanes[sheet] = lane;
        return ok(n);
    }

    int set(int sheet, int i, int v) {
        if (out(sheet, 0, 7)) return BAD;
        if (sheets[sheet] == null) return finding(1);
        if (out(i, 0, sheets[sheet].length - 1)) return finding(2);
        int bits = 8 << lanes[sheet];
        long low = v & ((1L << bits) - 1);
        sheets[sheet][i] = low >= 1L << (bits - 1) ? low - (1L << bits) : low;
        return ok((int) sheets[sheet][i]);
    }

    int copy(int a, int i, int b, int j, int n) {
        if (out(a, 0, 7) || out(b, 0, 7)) return BAD;
        if (sheets[a] == null || sheets[b] == null) return finding(1);
        if (lanes[a] != lanes[b]) return finding(5);
        if (i < 0 || j < 0 || n < 0 || (long) i + n > sheets[a].length || (long) j + n > sheets[b].length) {
            return finding(2);
        }
        long[] was = sheets[a].clone();
        for (int k = 0; k < n; k++) sheets[b][j + k] = was[i + k];
        return ok(n);
    }

    int drop(int sheet) {
        if (out(sheet, 0, 7)) return BAD;
        if (sheets[sheet] == null) return finding(1);
        int n = sheets[sheet].length;
        sheets[sheet] = null;
        return ok(n);
    }

    private static boolean isNumber(int which, long v) {
        switch (which) {
            case 0: return v == 0 || v >= 4 && v <= 20;
            case 1: return v >= 10 && v <= 200;
            case 2: return v >= 0 && v <= 11;
            case 3: return v >= -20 && v <= 20;
            case 4: return v >= 0 && v <= 100;
            case 5: return v >= -20 && v <= 50;
            case 6: return v >= 1 && v <= 100;
            case 7: return v >= 20 && v <= 200;
            case 8: return v >= 1 && v <= 100;
            case 9: return v >= 1 && v <= 100;
            case 10: return v >= 0 && v <= 500;
            default: return false;
        }
    }

    int engine(int place, int sheet, int i) {
        if (out(place, 0, 5) || out(sheet, 0, 7)) return BAD;
        if (sheets[sheet] == null) return finding(1);
        if (i < 0 || (long) i + 11 > sheets[sheet].length) return finding(2);
        int[] n = new int[11];
        for (int w = 0; w < 11; w++) {
            if (!isNumber(w, sheets[sheet][i + w])) return BAD;
            n[w] = (int) sheets[sheet][i + w];
        }
        shelf[place] = new Locomotive(n, 0);
        found[place] = null;
        return ok(1);
    }

    int adjust(int place, int which, int v) {
        if (out(place, 0, 5) || out(which, 0, 10) || !isNumber(which, v)) return BAD;
        if (shelf[place] == null) return finding(1);
        int was = shelf[place].n[which];
        shelf[place] = shelf[place].with(which, v);
        return ok(was);
    }

    int sicken(int place, int sickness) {
        if (out(place, 0, 5) || out(sickness, 0, 12)) return BAD;
        if (shelf[place] == null) return finding(1);
        int was = shelf[place].sickness;
        shelf[place] = shelf[place].sick(sickness);
        return ok(was);
    }

    int twin(int to, int place) {
        if (out(to, 0, 5) || out(place, 0, 5)) return BAD;
        if (shelf[place] == null) return finding(1);
        shelf[to] = shelf[place];
        found[to] = null;
        return ok(1);
    }

    int clear(int place) {
        if (out(place, 0, 5)) return BAD;
        int was = shelf[place] == null ? 0 : 1;
        shelf[place] = null;
        found[place] = null;
        return was;
    }

    int number(int place, int which) {
        if (out(place, 0, 5) || out(which, 0, 11)) return BAD;
        if (shelf[place] == null) return finding(1);
        return ok(which == 11 ? shelf[place].sickness : shelf[place].n[which]);
    }

    static int c(int place) {
        int k = ((place % 48) + 48) % 48;
        if (k > 24) return c(48 - k);
        return k <= 12 ? QUARTER[k] : -QUARTER[24 - k];
    }

    static int s(int k) {
        return c(k - 12);
    }

    static int x(Locomotive e, int k) {
        int x = (10000 - c(k)) / 20;
        return e.n[0] == 0 ? x : x + s(k) * s(k) / (400000 * e.n[0]);
    }

    static int late(Locomotive e) {
        return e.sickness >= 1 && e.sickness <= 3 ? -e.sickness
            : e.sickness >= 4 && e.sickness <= 6 ? e.sickness - 3 : 0;
    }

    static int leak(Locomotive e) {
        return e.sickness == 7 ? 5 : e.sickness == 8 ? 10 : e.sickness == 9 ? 20 : 0;
    }

    static int choked(Locomotive e) {
        return e.sickness == 10 ? 20 : e.sickness == 11 ? 50 : e.sickness == 12 ? 100 : 0;
    }

    static int v(Locomotive e, int n, int k) {
        int throwOf = e.n[1];
        int advance = e.n[2];
        return throwOf * ((6 + n) * s(k + advance + late(e)) + (6 - n) * s(advance - k)) / 120000 + e.n[3] * n / 6;
    }

    static int steam(Locomotive e, int n, int end, int k) {
        int v = end == 0 ? v(e, n, k) : -v(e, n, k);
        return Math.max(0, Math.min(e.n[6], v - e.n[4]));
    }

    static int exhaust(Locomotive e, int n, int end, int k) {
        int v = end == 0 ? -v(e, n, k) : v(e, n, k);
        return Math.max(0, Math.min(e.n[6], v - e.n[5]));
    }

    static int event(Locomotive e, int n, int end, int what) {
        for (int k = 0; k < 48; k++) {
            boolean now = (what < 2 ? steam(e, n, end, k) : exhaust(e, n, end, k)) > 0;
            boolean was = (what < 2 ? steam(e, n, end, k - 1) : exhaust(e, n, end, k - 1)) > 0;
            if ((what == 0 || what == 2) && now && !was) return k;
            if ((what == 1 || what == 3) && !now && was) return k;
        }
        return NONE;
    }

    static int unlike(Locomotive e) {
        int sum = 0;
        for (int n = 1; n <= 6; n++) {
            int a = event(e, n, 0, 1);
            int b = event(e, n, 1, 1);
            if (a == NONE || b == NONE) {
                sum += 24;
            } else {
                int off = 0;
                while ((a + 24 + off) % 48 != b && (a + 24 + 48 - off) % 48 != b) off++;
                sum += off;
            }
        }
        return sum;
    }

    static int[] setting(Locomotive e) {
        int[] best = null;
        for (int advance = 0; advance <= 11; advance++) {
            for (int hang = -20; hang <= 20; hang++) {
                int u = unlike(e.with(2, advance).with(3, hang));
                if (best == null || u < best[2]) best = new int[] {advance, hang, u};
            }
        }
        return best;
    }

    int piston(int place, int k) {
        if (out(place, 0, 5) || out(k, -1000, 1000)) return BAD;
        return shelf[place] == null ? finding(1) : ok(x(shelf[place], k));
    }

    int valve(int place, int notch, int k) {
        if (out(place, 0, 5) || out(notch, -6, 6) || out(k, -1000, 1000)) return BAD;
        return shelf[place] == null ? finding(1) : ok(v(shelf[place], notch, k));
    }

    int open(int place, int notch, int end, int k, int what) {
        if (out(place, 0, 5) || out(notch, -6, 6) || out(end, 0, 1) || out(k, -1000, 1000) || out(what, 0, 1)) {
            return BAD;
        }
        if (shelf[place] == null) return finding(1);
        return ok(what == 0 ? steam(shelf[place], notch, end, k) : exhaust(shelf[place], notch, end, k));
    }

    int event(int place, int notch, int end, int what) {
        if (out(place, 0, 5) || out(notch, -6, 6) || out(end, 0, 1) || out(what, 0, 3)) return BAD;
        return shelf[place] == null ? finding(1) : ok(event(shelf[place], notch, end, what));
    }

    int valves(int place, int what) {
        if (out(place, 0, 5) || out(what, 0, 1)) return BAD;
        if (shelf[place] == null) return finding(1);
        return ok(what == 0 ? unlike(shelf[place]) : steam(shelf[place], 6, 0, 0));
    }

    int setting(int place, int what) {
        if (out(place, 0, 5) || out(what, 0, 2)) return BAD;
        return shelf[place] == null ? finding(1) : ok(setting(shelf[place])[what]);
    }

    int tune(int place) {
        if (out(place, 0, 5)) return BAD;
        if (shelf[place] == null) return finding(1);
        int was = unlike(shelf[place]);
        int[] best = setting(shelf[place]);
        shelf[place] = shelf[place].with(2, best[0]).with(3, best[1]);
        return ok(was);
    }

    static int w(Locomotive e, int end, int k) {
        return e.n[7] + (end == 0 ? x(e, k) : 1000 - x(e, k));
    }

    static Card draw(Locomotive e, int n, int boiler, int r, int end) {
        long b = boiler * r / 4;
        long p = e.n[10];
        long drink = 0;
        int[] row = new int[48];
        for (int k = 1; k <= 143; k++) {
            p = p * w(e, end, k - 1) / w(e, end, k);
            int o = steam(e, n, end, k);
            long added = (b - p) * o / (o + e.n[8] + choked(e));
            if (k >= 96 && added > 0) drink += added * w(e, end, k);
            p += added;
            o = exhaust(e, n, end, k);
            p += (e.n[10] - p) * o / (o + e.n[9]);
            p += (b - p) * leak(e) / 200;
            if (k >= 96) row[k - 96] = (int) p;
        }
        return new Card(row, drink);
    }

    static int[] work(Locomotive e, int n, int boiler, int r) {
        long work = 0;
        long drink = 0;
        for (int end = 0; end < 2; end++) {
            Card card = draw(e, n, boiler, r, end);
            for (int k = 0; k < 48; k++) {
                long both = card.row[k] + card.row[(k + 1) % 48];
                work += both * (end == 0 ? x(e, k + 1) - x(e, k) : x(e, k) - x(e, k + 1));
            }
            drink += card.drink;
        }
        return new int[] {(int) (work / 2000), (int) (drink / 1000)};
    }

    int card(int place, int notch, int boiler, int regulator, int end, int k) {
        if (out(place, 0, 5) || out(notch, -6, 6) || out(boiler, 0, 2000) || out(regulator, 0, 4)
                || out(end, 0, 1) || out(k, 0, 47)) {
            return BAD;
        }
        return shelf[place] == null ? finding(1) : ok(draw(shelf[place], notch, boiler, regulator, end).row[k]);
    }

    int look(int place, int notch, int boiler, int regulator, int end, int what) {
        if (out(place, 0, 5) || out(notch, -6, 6) || out(boiler, 0, 2000) || out(regulator, 0, 4)
                || out(end, 0, 1) || out(what, 0, 2)) {
            return BAD;
        }
        if (shelf[place] == null) return finding(1);
        int[] row = draw(shelf[place], notch, boiler, regulator, end).row;
        if (what == 0) return ok(Arrays.stream(row).sum() / 48);
        if (what == 1) return ok(Arrays.stream(row).max().getAsInt());
        int loop = 0;
        for (int k = 1; k <= 23; k++) {
            if (row[k] < row[48 - k]) loop++;
        }
        return ok(loop);
    }

    int work(int place, int notch, int boiler, int regulator, int what) {
        if (out(place, 0, 5) || out(notch, -6, 6) || out(boiler, 0, 2000) || out(regulator, 0, 4) || out(what, 0, 1)) {
            return BAD;
        }
        return shelf[place] == null ? finding(1) : ok(work(shelf[place], notch, boiler, regulator)[what]);
    }

    private static int[] ofSheet(long[] sheet, int i) {
        int[] row = new int[48];
        for (int k = 0; k < 48; k++) row[k] = (int) sheet[i + k];
        return row;
    }

    private static boolean unfit(int[] row) {
        return Arrays.stream(row).anyMatch(v -> v < -1 || v > 5000);
    }

    private static int far(int[] told, int[] drawn) {
        int sum = 0;
        for (int k = 0; k < 48; k++) {
            if (told[k] != -1) sum += Math.abs(told[k] - drawn[k]);
        }
        return sum;
    }

    int find(int place, int notch, int boiler, int sheet, int i) {
        if (out(place, 0, 5) || out(notch, -6, 6) || out(boiler, 0, 2000) || out(sheet, 0, 7)) return BAD;
        if (shelf[place] == null || sheets[sheet] == null) return finding(1);
        if (i < 0 || (long) i + 48 > sheets[sheet].length) return finding(2);
        int[] row = ofSheet(sheets[sheet], i);
        if (unfit(row)) return BAD;
        found[place] = new Found(notch, boiler, row);
        return ok((int) Arrays.stream(row).filter(v -> v != -1).count());
    }

    private int misfitOf(int place, int sickness) {
        Found f = found[place];
        return far(f.row, draw(shelf[place].sick(sickness), f.notch, f.boiler, 4, 0).row);
    }

    int misfit(int place, int sickness) {
        if (out(place, 0, 5) || out(sickness, 0, 12)) return BAD;
        return found[place] == null ? STATE : ok(misfitOf(place, sickness));
    }

    int named(int place, int what, int number) {
        if (out(place, 0, 5) || out(what, 0, 2) || what == 2 && out(number, 0, 100000)) return BAD;
        if (found[place] == null) return STATE;
        int best = 0;
        for (int s = 1; s <= 12; s++) {
            if (misfitOf(place, s) < misfitOf(place, best)) best = s;
        }
        int least = misfitOf(place, best);
        if (what < 2) return ok(what == 0 ? best : least);
        int doubt = 0;
        for (int s = 0; s <= 12; s++) {
            if (s != best && misfitOf(place, s) <= least + number) doubt++;
        }
        return ok(doubt);
    }

    int whose(int sheet, int i, int boiler, int what) {
        if (out(sheet, 0, 7) || out(boiler, 0, 2000) || out(what, 0, 2)) return BAD;
        if (sheets[sheet] == null) return finding(1);
        if (i < 0 || (long) i + 48 > sheets[sheet].length) return finding(2);
        int[] row = ofSheet(sheets[sheet], i);
        if (unfit(row)) return BAD;
        int[] best = {NONE, NONE, NONE};
        for (int place = 5; place >= 0; place--) {
            for (int notch = 6; notch >= -6 && shelf[place] != null; notch--) {
                int sum = far(row, draw(shelf[place], notch, boiler, 4, 0).row);
                if (best[0] == NONE || sum <= best[2]) best = new int[] {place, notch, sum};
            }
        }
        return ok(best[what]);
    }

    int next(int place, int one, int two, int boiler) {
        if (out(place, 0, 5) || out(one, 0, 12) || out(two, 0, 12) || one == two || out(boiler, 0, 2000)) return BAD;
        if (shelf[place] == null) return finding(1);
        int best = 6;
        int most = -1;
        for (int notch = 6; notch >= -6; notch--) {
            int[] a = draw(shelf[place].sick(one), notch, boiler, 4, 0).row;
            int[] b = draw(shelf[place].sick(two), notch, boiler, 4, 0).row;
            int sum = 0;
            for (int k = 0; k < 48; k++) sum += Math.abs(a[k] - b[k]);
            if (sum >= most) {
                most = sum;
                best = notch;
            }
        }
        return ok(best);
    }

    private static int coalOf(List<Choice> plan) {
        int sum = 0;
        for (Choice c : plan) sum += c.coal;
        return sum;
    }

    /** The best choices from stretch s on; null: there are none. */
    private static List<Choice> best(List<List<Choice>> road, int s, int left, Map<Long, List<Choice>> known) {
        if (s == road.size()) return List.of();
        long key = s * 10000L + left;
        if (known.containsKey(key)) return known.get(key);
        List<Choice> best = null;
        int least = 0;
        for (Choice choice : road.get(s)) {
            List<Choice> rest = choice.minutes > left ? null : best(road, s + 1, left - choice.minutes, known);
            // the choices come in their order, and so the first of the least is the one that is told
            if (rest != null && (best == null || choice.coal + coalOf(rest) < least)) {
                least = choice.coal + coalOf(rest);
                best = new ArrayList<>();
                best.add(choice);
                best.addAll(rest);
            }
        }
        known.put(key, best);
        return best;
    }

    int run(int place, int boiler, int minutes, int sheet, int i, int n) {
        if (out(place, 0, 5) || out(boiler, 0, 2000) || out(minutes, 0, 1000) || out(sheet, 0, 7) || out(n, 1, 10)) {
            return BAD;
        }
        if (shelf[place] == null || sheets[sheet] == null) return finding(1);
        if (i < 0 || (long) i + 3 * n > sheets[sheet].length) return finding(2);
        for (int s = 0; s < n; s++) {
            long[] row = sheets[sheet];
            int at = i + 3 * s;
            if (row[at] < 1 || row[at] > 50 || row[at + 1] < 0 || row[at + 1] > 2000 || row[at + 2] < 0
                    || row[at + 2] > 1) {
                return BAD;
            }
        }
        int[][][] able = new int[7][5][];
        List<List<Choice>> road = new ArrayList<>();
        for (int s = 0; s < n; s++) {
            int at = i + 3 * s;
            int miles = (int) sheets[sheet][at];
            int load = (int) sheets[sheet][at + 1];
            int stop = (int) sheets[sheet][at + 2];
            List<Choice> choices = new ArrayList<>();
            for (int notch = 1; notch <= 6; notch++) {
                for (int r = 1; r <= 4; r++) {
                    if (able[notch][r] == null) able[notch][r] = work(shelf[place], notch, boiler, r);
                    int speed = Math.min((able[notch][r][0] - load) / 10, 60);
                    if (speed < 1) continue;
                    int lasts = 60 * miles / speed;
                    if (60 * miles % speed != 0) lasts++;
                    if (stop == 1) lasts += 3;
                    choices.add(new Choice(notch, r, lasts, able[notch][r][1] * miles / 100));
                }
            }
            road.add(choices);
        }
        List<Choice> plan = best(road, 0, minutes, new HashMap<>());
        if (plan == null) return ok(NONE);
        kept = plan;
        return ok(coalOf(plan));
    }

    int plan(int i, int what) {
        if (out(what, 0, 3)) return BAD;
        if (kept.isEmpty()) return STATE;
        if (out(i, 0, kept.size() - 1)) return NONE;
        Choice c = kept.get(i);
        return new int[] {c.notch, c.regulator, c.minutes, c.coal}[what];
    }

    int stoke(int coals) {
        if (out(coals, 1, 1000)) return BAD;
        if (heap + coals > 10000) return FULL;
        heap += coals;
        return heap;
    }

    int minute(int place, int notch, int regulator) {
        if (out(place, 0, 5) || out(notch, -6, 6) || out(regulator, 0, 4)) return BAD;
        if (shelf[place] == null) return finding(1);
        minutes++;
        for (int i = 0; i < 20 && heap > 0; i++) {
            heap--;
            burnt++;
            gauge += 5;
        }
        int wanted = work(shelf[place], notch, Math.min(gauge, 2000), regulator)[1] / 100;
        for (int i = 0; i < wanted && gauge > 0; i++) {
            gauge--;
            drunk++;
        }
        while (gauge > 1500) {
            gauge--;
            blown++;
        }
        return ok(gauge);
    }

    int fire(int what) {
        return out(what, 0, 5) ? BAD : new int[] {gauge, heap, burnt, drunk, blown, minutes}[what];
    }

    private static boolean of(Locomotive e, int kind) {
        switch (kind) {
            case 0: return true;
            case 1: return e.sickness == 0;
            case 2: return of(e, 1) && unlike(e) <= 6;
            case 3: return e.sickness != 0;
            default: return of(e, 3) && work(e, 6, 1000, 4)[0] <= 0;
        }
    }

    private static int told(Locomotive e) {
        for (int kind : new int[] {4, 3, 2, 1}) {
            if (of(e, kind)) return kind;
        }
        return 0;
    }

    int kind(int place) {
        if (out(place, 0, 5)) return BAD;
        return shelf[place] == null ? finding(1) : ok(told(shelf[place]));
    }

    int is(int place, int kind) {
        if (out(place, 0, 5) || out(kind, 0, 4)) return BAD;
        return shelf[place] != null && of(shelf[place], kind) ? 1 : 0;
    }

    int as(int place, int kind) {
        if (out(place, 0, 5) || out(kind, 0, 4)) return BAD;
        if (shelf[place] == null) return finding(1);
        return of(shelf[place], kind) ? ok(shelf[place].n[1]) : finding(3);
    }

    private int body(int number, Locomotive e) {
        bodies.add(number);
        switch (number) {
            case 10: return e.n[1];
            case 11: return body(10, e) + steam(e, 6, 0, 0);
            case 12: return body(11, e) + asked(1, e);
            case 13: return body(10, e) - e.sickness;
            case 14: return 2 * body(13, e);
            case 20: return e.n[4];
            case 21: return body(20, e) + 100;
            case 22: return body(20, e) + asked(0, e);
            default: return body(22, e) - 1000;
        }
    }

    private int asked(int what, Locomotive e) {
        int[][] begins = {{10, 11, 12, 13, 14}, {20, 20, 21, 22, 23}};
        return body(begins[what][told(e)], e);
    }

    int ask(int place, int what) {
        if (out(place, 0, 5) || out(what, 0, 1)) return BAD;
        bodies.clear();
        return shelf[place] == null ? finding(1) : ok(asked(what, shelf[place]));
    }

    int trace(int i) {
        return out(i, 0, Math.min(bodies.size(), 16) - 1) ? NONE : bodies.get(i);
    }

    int count(int what) {
        if (out(what, 0, 7)) return BAD;
        int sum = 0;
        if (what == 0) {
            for (long[] sheet : sheets) sum += sheet == null ? 0 : 1;
        } else if (what == 6) {
            for (Found f : found) sum += f == null ? 0 : 1;
        } else if (what == 7) {
            sum = kept.size();
        } else {
            for (Locomotive e : shelf) sum += e != null && of(e, what - 1) ? 1 : 0;
        }
        return sum;
    }

    int status() {
        return status;
    }
}
