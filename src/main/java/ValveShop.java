import java.util.Arrays;

/**
 * Engines whose valves are moved by two eccentrics and a link, and the shop that looks after them.
 * ../shared/DOC.md tells what it promises; the names below are the document's.
 */
public final class ValveShop {
    public static final int NONE = -1000000, BAD = -1000001, STATE = -1000002, FULL = -1000003;

    private static final int FINDINGS = -1000010;
    private static final int NULL = 1, PLACE = 2, KIND = 3, SIZE = 4, STORE = 5;

    private static final int SHEETS = 8, MOST_ITEMS = 60, SHELF = 6;
    private static final int BYTES = 0, SHORTS = 1, INTS = 2;

    private static final int ROD = 0, THROW = 1, ADVANCE = 2, HANG = 3, LAP = 4, INLAP = 5;
    private static final int PORT = 6, CLEAR = 7, CHOKE = 8, DRAIN = 9, AIR = 10, NUMBERS = 11;
    private static final int LEAST_ROD = 4;
    private static final int[] LEAST_NUMBER = {0, 10, 0, -20, 0, -20, 1, 20, 1, 1, 0};
    private static final int[] MOST_NUMBER = {20, 200, 11, 20, 100, 50, 100, 200, 100, 100, 500};

    private static final int SICKNESSES = 13;
    private static final int[] LATE = {0, -1, -2, -3, 1, 2, 3, 0, 0, 0, 0, 0, 0};
    private static final int[] LEAK = {0, 0, 0, 0, 0, 0, 0, 5, 10, 20, 0, 0, 0};
    private static final int[] CHOKED = {0, 0, 0, 0, 0, 0, 0, 0, 0, 0, 20, 50, 100};

    private static final int PLACES = 48, QUARTER = 12, HALF = 24, TURNS = 3, STROKE = 1000;
    private static final int[] COSINES = {
        10000, 9914, 9659, 9239, 8660, 7934, 7071, 6088, 5000, 3827, 2588, 1305,
        0, -1305, -2588, -3827, -5000, -6088, -7071, -7934, -8660, -9239, -9659, -9914,
        -10000, -9914, -9659, -9239, -8660, -7934, -7071, -6088, -5000, -3827, -2588, -1305,
        0, 1305, 2588, 3827, 5000, 6088, 7071, 7934, 8660, 9239, 9659, 9914};

    private static final int FULL_GEAR = 6, MOST_BOILER = 2000, WIDE = 4, FARTHEST_PLACE = 1000;
    private static final int HEAD = 0, STEAM = 0, EXHAUST = 1, CUTS = 1;

    private static final int UNREAD = -1, MOST_FOUND = 5000, MOST_DOUBT = 100000;

    private static final int STRETCHES = 10, STRETCH_ITEMS = 3, MOST_MINUTES = 1000;
    private static final int CHOICES = 24, PLANNED = 4, UNREACHED = 1000000000;

    private static final int MOST_STOKED = 1000, MOST_HEAP = 10000, FIRE_NUMBERS = 6;

    private static final int ENGINE = 0, SOUND = 1, EVEN = 2, SICK = 3, STUCK = 4;
    private static final int EVEN_ENOUGH = 6, TRIAL_BOILER = 1000, TRACED = 16, COUNTS = 8;

    private final Sheet[] sheets = new Sheet[SHEETS];
    private final Engine[] shelf = new Engine[SHELF];
    private final FoundCard[] foundCards = new FoundCard[SHELF];
    private final Engine trial = new Engine();
    private final FoundCard compared = new FoundCard();
    private final Gear gear = new Gear();
    private final Pencil pencil = new Pencil();
    private final Naming naming = new Naming();
    private final Planner planner = new Planner();
    private final Fire hearth = new Fire();
    private final int[] traced = new int[TRACED];
    private int tracedBodies;
    private int finding;

    public ValveShop() {
        for (int i = 0; i < sheets.length; i++) {
            sheets[i] = new Sheet();
        }
        for (int i = 0; i < shelf.length; i++) {
            shelf[i] = new Engine();
        }
        for (int i = 0; i < foundCards.length; i++) {
            foundCards[i] = new FoundCard();
        }
    }

    // ---- sheets

    public int sheet(int sheet, int lane, int n) {
        if (!within(sheet, 0, SHEETS - 1) || !within(lane, BYTES, INTS) || n > MOST_ITEMS) {
            return BAD;
        }
        if (n < 0) {
            return found(SIZE);
        }
        sheets[sheet].begin(lane, n);
        return answered(n);
    }

    public int set(int sheet, int i, int v) {
        if (!within(sheet, 0, SHEETS - 1)) {
            return BAD;
        }
        Sheet paper = sheetAt(sheet);
        if (paper == null) {
            return found(NULL);
        }
        if (!paper.has(i, 1)) {
            return found(PLACE);
        }
        return answered(paper.write(i, v));
    }

    public int copy(int a, int i, int b, int j, int n) {
        if (!within(a, 0, SHEETS - 1) || !within(b, 0, SHEETS - 1)) {
            return BAD;
        }
        Sheet from = sheetAt(a);
        Sheet to = sheetAt(b);
        if (from == null || to == null) {
            return found(NULL);
        }
        if (from.lane != to.lane) {
            return found(STORE);
        }
        if (!from.has(i, n) || !to.has(j, n)) {
            return found(PLACE);
        }
        System.arraycopy(from.items, i, to.items, j, n);
        return answered(n);
    }

    public int drop(int sheet) {
        if (!within(sheet, 0, SHEETS - 1)) {
            return BAD;
        }
        Sheet paper = sheetAt(sheet);
        if (paper == null) {
            return found(NULL);
        }
        paper.there = false;
        return answered(paper.size);
    }

    // ---- engines

    public int engine(int place, int sheet, int i) {
        if (!isPlace(place) || !within(sheet, 0, SHEETS - 1)) {
            return BAD;
        }
        Sheet paper = sheetAt(sheet);
        if (paper == null) {
            return found(NULL);
        }
        if (!paper.has(i, NUMBERS)) {
            return found(PLACE);
        }
        for (int which = 0; which < NUMBERS; which++) {
            if (!isNumber(which, paper.read(i + which))) {
                return BAD;
            }
        }
        shelf[place].build(paper, i);
        foundCards[place].kept = false;
        return answered(1);
    }

    public int adjust(int place, int which, int v) {
        if (!isPlace(place) || !isNumber(which, v)) {
            return BAD;
        }
        Engine engine = engineAt(place);
        if (engine == null) {
            return found(NULL);
        }
        int was = engine.numbers[which];
        engine.numbers[which] = v;
        return answered(was);
    }

    public int sicken(int place, int sickness) {
        if (!isPlace(place) || !isSickness(sickness)) {
            return BAD;
        }
        Engine engine = engineAt(place);
        if (engine == null) {
            return found(NULL);
        }
        int was = engine.sickness;
        engine.sickness = sickness;
        return answered(was);
    }

    public int twin(int to, int place) {
        if (!isPlace(to) || !isPlace(place)) {
            return BAD;
        }
        Engine engine = engineAt(place);
        if (engine == null) {
            return found(NULL);
        }
        shelf[to].resemble(engine);
        foundCards[to].kept = false;
        return answered(1);
    }

    public int clear(int place) {
        if (!isPlace(place)) {
            return BAD;
        }
        Engine engine = engineAt(place);
        if (engine == null) {
            return 0;
        }
        engine.there = false;
        foundCards[place].kept = false;
        return 1;
    }

    public int number(int place, int which) {
        if (!isPlace(place) || !within(which, 0, NUMBERS)) {
            return BAD;
        }
        Engine engine = engineAt(place);
        if (engine == null) {
            return found(NULL);
        }
        return answered(which < NUMBERS ? engine.numbers[which] : engine.sickness);
    }

    // ---- valves

    public int piston(int place, int k) {
        if (!isPlace(place) || !isTurned(k)) {
            return BAD;
        }
        Engine engine = engineAt(place);
        if (engine == null) {
            return found(NULL);
        }
        return answered(engine.stroke(k));
    }

    public int valve(int place, int notch, int k) {
        if (!isPlace(place) || !isNotch(notch) || !isTurned(k)) {
            return BAD;
        }
        Engine engine = engineAt(place);
        if (engine == null) {
            return found(NULL);
        }
        return answered(engine.travel(notch, k));
    }

    public int open(int place, int notch, int end, int k, int what) {
        if (!isPlace(place) || !isNotch(notch) || !isEnd(end) || !isTurned(k)
                || !within(what, STEAM, EXHAUST)) {
            return BAD;
        }
        Engine engine = engineAt(place);
        if (engine == null) {
            return found(NULL);
        }
        return answered(engine.opening(engine.travel(notch, k), end, what));
    }

    public int event(int place, int notch, int end, int what) {
        if (!isPlace(place) || !isNotch(notch) || !isEnd(end) || !within(what, 0, 3)) {
            return BAD;
        }
        Engine engine = engineAt(place);
        if (engine == null) {
            return found(NULL);
        }
        return answered(gear.firstEvent(engine, notch, end, what));
    }

    public int valves(int place, int what) {
        if (!isPlace(place) || !within(what, 0, 1)) {
            return BAD;
        }
        Engine engine = engineAt(place);
        if (engine == null) {
            return found(NULL);
        }
        return answered(what == 0 ? gear.unlike(engine) : engine.lead());
    }

    public int setting(int place, int what) {
        if (!isPlace(place) || !within(what, 0, 2)) {
            return BAD;
        }
        Engine engine = engineAt(place);
        if (engine == null) {
            return found(NULL);
        }
        gear.seekSetting(engine, trial);
        if (what == 0) {
            return answered(gear.bestAdvance);
        }
        return answered(what == 1 ? gear.bestHang : gear.leastUnlike);
    }

    public int tune(int place) {
        if (!isPlace(place)) {
            return BAD;
        }
        Engine engine = engineAt(place);
        if (engine == null) {
            return found(NULL);
        }
        int was = gear.unlike(engine);
        gear.seekSetting(engine, trial);
        engine.numbers[ADVANCE] = gear.bestAdvance;
        engine.numbers[HANG] = gear.bestHang;
        return answered(was);
    }

    // ---- cards

    public int card(int place, int notch, int boiler, int regulator, int end, int k) {
        if (!isPlace(place) || !isNotch(notch) || !isBoiler(boiler) || !isRegulator(regulator)
                || !isEnd(end) || !within(k, 0, PLACES - 1)) {
            return BAD;
        }
        Engine engine = engineAt(place);
        if (engine == null) {
            return found(NULL);
        }
        pencil.draw(engine, notch, boiler, regulator, end);
        return answered(pencil.pressures[k]);
    }

    public int look(int place, int notch, int boiler, int regulator, int end, int what) {
        if (!isPlace(place) || !isNotch(notch) || !isBoiler(boiler) || !isRegulator(regulator)
                || !isEnd(end) || !within(what, 0, 2)) {
            return BAD;
        }
        Engine engine = engineAt(place);
        if (engine == null) {
            return found(NULL);
        }
        pencil.draw(engine, notch, boiler, regulator, end);
        if (what == 0) {
            return answered(pencil.mean());
        }
        return answered(what == 1 ? pencil.peak() : pencil.loop());
    }

    public int work(int place, int notch, int boiler, int regulator, int what) {
        if (!isPlace(place) || !isNotch(notch) || !isBoiler(boiler) || !isRegulator(regulator)
                || !within(what, 0, 1)) {
            return BAD;
        }
        Engine engine = engineAt(place);
        if (engine == null) {
            return found(NULL);
        }
        pencil.measure(engine, notch, boiler, regulator);
        return answered(what == 0 ? pencil.work : pencil.drink);
    }

    // ---- sick ones

    public int find(int place, int notch, int boiler, int sheet, int i) {
        if (!isPlace(place) || !isNotch(notch) || !isBoiler(boiler)
                || !within(sheet, 0, SHEETS - 1)) {
            return BAD;
        }
        Sheet paper = sheetAt(sheet);
        if (engineAt(place) == null || paper == null) {
            return found(NULL);
        }
        if (!paper.has(i, PLACES)) {
            return found(PLACE);
        }
        if (!paper.holdsWithin(i, PLACES, UNREAD, MOST_FOUND)) {
            return BAD;
        }
        FoundCard card = foundCards[place];
        card.take(paper, i);
        card.notch = notch;
        card.boiler = boiler;
        card.kept = true;
        return answered(card.readable());
    }

    public int misfit(int place, int sickness) {
        if (!isPlace(place) || !isSickness(sickness)) {
            return BAD;
        }
        Engine engine = engineAt(place);
        FoundCard card = foundCards[place];
        if (engine == null || !card.kept) {
            return STATE;
        }
        trial.resemble(engine);
        return answered(naming.misfitBy(card, trial, sickness, pencil));
    }

    public int named(int place, int what, int number) {
        if (!isPlace(place) || !within(what, 0, 2)
                || what == 2 && !within(number, 0, MOST_DOUBT)) {
            return BAD;
        }
        Engine engine = engineAt(place);
        FoundCard card = foundCards[place];
        if (engine == null || !card.kept) {
            return STATE;
        }
        trial.resemble(engine);
        naming.seek(card, trial, pencil);
        if (what == 0) {
            return answered(naming.best);
        }
        return answered(what == 1 ? naming.least : naming.doubt(number));
    }

    public int whose(int sheet, int i, int boiler, int what) {
        if (!within(sheet, 0, SHEETS - 1) || !isBoiler(boiler) || !within(what, 0, 2)) {
            return BAD;
        }
        Sheet paper = sheetAt(sheet);
        if (paper == null) {
            return found(NULL);
        }
        if (!paper.has(i, PLACES)) {
            return found(PLACE);
        }
        if (!paper.holdsWithin(i, PLACES, UNREAD, MOST_FOUND)) {
            return BAD;
        }
        compared.take(paper, i);
        return answered(nearest(boiler, what));
    }

    public int next(int place, int one, int two, int boiler) {
        if (!isPlace(place) || !isSickness(one) || !isSickness(two) || one == two
                || !isBoiler(boiler)) {
            return BAD;
        }
        Engine engine = engineAt(place);
        if (engine == null) {
            return found(NULL);
        }
        trial.resemble(engine);
        return answered(farthestApart(one, two, boiler));
    }

    // ---- runs

    public int run(int place, int boiler, int minutes, int sheet, int i, int n) {
        if (!isPlace(place) || !isBoiler(boiler) || !within(minutes, 0, MOST_MINUTES)
                || !within(sheet, 0, SHEETS - 1) || !within(n, 1, STRETCHES)) {
            return BAD;
        }
        Engine engine = engineAt(place);
        Sheet paper = sheetAt(sheet);
        if (engine == null || paper == null) {
            return found(NULL);
        }
        if (!paper.has(i, STRETCH_ITEMS * n)) {
            return found(PLACE);
        }
        if (!planner.takesRoad(paper, i, n)) {
            return BAD;
        }
        planner.tryOut(engine, boiler, pencil);
        return answered(planner.choose(minutes));
    }

    public int plan(int i, int what) {
        if (!within(what, 0, PLANNED - 1)) {
            return BAD;
        }
        if (planner.keptStretches == 0) {
            return STATE;
        }
        return within(i, 0, planner.keptStretches - 1) ? planner.kept[PLANNED * i + what] : NONE;
    }

    // ---- the fire

    public int stoke(int coals) {
        if (!within(coals, 1, MOST_STOKED)) {
            return BAD;
        }
        if (hearth.heap + coals > MOST_HEAP) {
            return FULL;
        }
        hearth.heap += coals;
        return hearth.heap;
    }

    public int minute(int place, int notch, int regulator) {
        if (!isPlace(place) || !isNotch(notch) || !isRegulator(regulator)) {
            return BAD;
        }
        Engine engine = engineAt(place);
        if (engine == null) {
            return found(NULL);
        }
        hearth.burn();
        pencil.measure(engine, notch, Math.min(hearth.gauge, MOST_BOILER), regulator);
        hearth.give(pencil.drink / 100);
        hearth.blow();
        return answered(hearth.gauge);
    }

    public int fire(int what) {
        return within(what, 0, FIRE_NUMBERS - 1) ? hearth.told(what) : BAD;
    }

    // ---- asked

    public int kind(int place) {
        if (!isPlace(place)) {
            return BAD;
        }
        Engine engine = engineAt(place);
        if (engine == null) {
            return found(NULL);
        }
        return answered(toldKind(engine));
    }

    public int is(int place, int kind) {
        if (!isPlace(place) || !within(kind, ENGINE, STUCK)) {
            return BAD;
        }
        Engine engine = engineAt(place);
        return engine != null && belongs(toldKind(engine), kind) ? 1 : 0;
    }

    public int as(int place, int kind) {
        if (!isPlace(place) || !within(kind, ENGINE, STUCK)) {
            return BAD;
        }
        Engine engine = engineAt(place);
        if (engine == null) {
            return found(NULL);
        }
        if (!belongs(toldKind(engine), kind)) {
            return found(KIND);
        }
        return answered(engine.numbers[THROW]);
    }

    public int ask(int place, int what) {
        if (!isPlace(place) || !within(what, 0, 1)) {
            return BAD;
        }
        tracedBodies = 0;
        Engine engine = engineAt(place);
        if (engine == null) {
            return found(NULL);
        }
        int told = toldKind(engine);
        return answered(what == 0 ? askWorth(engine, told) : askMark(engine, told));
    }

    public int trace(int i) {
        return within(i, 0, tracedBodies - 1) ? traced[i] : NONE;
    }

    public int count(int what) {
        if (!within(what, 0, COUNTS - 1)) {
            return BAD;
        }
        switch (what) {
            case 0: return countSheets();
            case 1: return countEngines(ENGINE);
            case 2: return countEngines(SOUND);
            case 3: return countEngines(EVEN);
            case 4: return countEngines(SICK);
            case 5: return countEngines(STUCK);
            case 6: return countFoundCards();
            default: return planner.keptStretches;
        }
    }

    public int status() {
        return finding;
    }

    // ---- what the calls share

    private static boolean within(int v, int least, int most) {
        return v >= least && v <= most;
    }

    private static boolean isPlace(int place) {
        return within(place, 0, SHELF - 1);
    }

    private static boolean isNumber(int which, int v) {
        if (!within(which, 0, NUMBERS - 1)) {
            return false;
        }
        if (which == ROD && v != 0 && v < LEAST_ROD) {
            return false;
        }
        return within(v, LEAST_NUMBER[which], MOST_NUMBER[which]);
    }

    private static boolean isSickness(int sickness) {
        return within(sickness, 0, SICKNESSES - 1);
    }

    private static boolean isNotch(int notch) {
        return within(notch, -FULL_GEAR, FULL_GEAR);
    }

    private static boolean isEnd(int end) {
        return within(end, 0, 1);
    }

    private static boolean isTurned(int k) {
        return within(k, -FARTHEST_PLACE, FARTHEST_PLACE);
    }

    private static boolean isBoiler(int boiler) {
        return within(boiler, 0, MOST_BOILER);
    }

    private static boolean isRegulator(int regulator) {
        return within(regulator, 0, WIDE);
    }

    private int found(int number) {
        finding = number;
        return FINDINGS - number;
    }

    private int answered(int answer) {
        finding = 0;
        return answer;
    }

    private Sheet sheetAt(int sheet) {
        if (!within(sheet, 0, SHEETS - 1)) {
            return null;
        }
        Sheet paper = sheets[sheet];
        return paper != null && paper.there ? paper : null;
    }

    private Engine engineAt(int place) {
        if (!isPlace(place)) {
            return null;
        }
        Engine engine = shelf[place];
        return engine != null && engine.there ? engine : null;
    }

    private static int cosine(int k) {
        int place = k % PLACES;
        return COSINES[place < 0 ? place + PLACES : place];
    }

    /** What part is of a whole that may be empty: an amount's share, cut towards 0. */
    private static int share(int amount, int part, int whole) {
        return whole > 0 ? amount * part / whole : 0;
    }

    // ---- whose a card is, and where to look next

    private int nearest(int boiler, int what) {
        int bestPlace = NONE;
        int bestNotch = NONE;
        int least = NONE;
        for (int place = 0; place < SHELF; place++) {
            Engine engine = engineAt(place);
            for (int notch = -FULL_GEAR; engine != null && notch <= FULL_GEAR; notch++) {
                pencil.draw(engine, notch, boiler, WIDE, HEAD);
                int sum = compared.apart(pencil.pressures);
                if (bestPlace == NONE || sum < least) {
                    bestPlace = place;
                    bestNotch = notch;
                    least = sum;
                }
            }
        }
        if (what == 0) {
            return bestPlace;
        }
        return what == 1 ? bestNotch : least;
    }

    private int farthestApart(int one, int two, int boiler) {
        int bestNotch = -FULL_GEAR;
        int most = -1;
        for (int notch = -FULL_GEAR; notch <= FULL_GEAR; notch++) {
            trial.sickness = one;
            pencil.draw(trial, notch, boiler, WIDE, HEAD);
            // A PRESSURE is never below 0, so none of these looks like a PLACE not to be read.
            System.arraycopy(pencil.pressures, 0, compared.items, 0, PLACES);
            trial.sickness = two;
            pencil.draw(trial, notch, boiler, WIDE, HEAD);
            int sum = compared.apart(pencil.pressures);
            if (sum > most) {
                bestNotch = notch;
                most = sum;
            }
        }
        return bestNotch;
    }

    // ---- kinds and asks

    private int toldKind(Engine engine) {
        if (engine.sickness != 0) {
            pencil.measure(engine, FULL_GEAR, TRIAL_BOILER, WIDE);
            return pencil.work <= 0 ? STUCK : SICK;
        }
        return gear.unlike(engine) <= EVEN_ENOUGH ? EVEN : SOUND;
    }

    private static boolean belongs(int told, int kind) {
        return kind == ENGINE || kind == told
                || kind == SOUND && told == EVEN || kind == SICK && told == STUCK;
    }

    private int askWorth(Engine engine, int told) {
        switch (told) {
            case SOUND: return worthOfSound(engine);
            case EVEN:
                leave(12);
                // The MARK of an EVEN one is always body 21: named here, so that the two
                // asks need not call one another in a ring.
                return worthOfSound(engine) + markOfEven(engine);
            case SICK: return worthOfSick(engine);
            case STUCK: return worthOfStuck(engine);
            default: return worthOfAny(engine);
        }
    }

    private int worthOfAny(Engine engine) {
        leave(10);
        return engine.numbers[THROW];
    }

    private int worthOfSound(Engine engine) {
        leave(11);
        return worthOfAny(engine) + engine.lead();
    }

    private int worthOfSick(Engine engine) {
        leave(13);
        return worthOfAny(engine) - engine.sickness;
    }

    private int worthOfStuck(Engine engine) {
        leave(14);
        return 2 * worthOfSick(engine);
    }

    private int askMark(Engine engine, int told) {
        switch (told) {
            case EVEN: return markOfEven(engine);
            case SICK: return markOfSick(engine, told);
            case STUCK:
                leave(23);
                return markOfSick(engine, told) - 1000;
            default: return markOfAny(engine);
        }
    }

    private int markOfAny(Engine engine) {
        leave(20);
        return engine.numbers[LAP];
    }

    private int markOfEven(Engine engine) {
        leave(21);
        return markOfAny(engine) + 100;
    }

    private int markOfSick(Engine engine, int told) {
        leave(22);
        int mark = markOfAny(engine);
        // Only these two come here: by way of askWorth() the calls would seem to go nine deep.
        return mark + (told == STUCK ? worthOfStuck(engine) : worthOfSick(engine));
    }

    private void leave(int body) {
        if (within(tracedBodies, 0, TRACED - 1)) {
            traced[tracedBodies] = body;
            tracedBodies++;
        }
    }

    // ---- counts

    private int countSheets() {
        int sum = 0;
        for (int sheet = 0; sheet < SHEETS; sheet++) {
            sum += sheetAt(sheet) != null ? 1 : 0;
        }
        return sum;
    }

    private int countEngines(int kind) {
        int sum = 0;
        for (int place = 0; place < SHELF; place++) {
            Engine engine = engineAt(place);
            if (engine != null && (kind == ENGINE || belongs(toldKind(engine), kind))) {
                sum++;
            }
        }
        return sum;
    }

    private int countFoundCards() {
        int sum = 0;
        for (int place = 0; place < SHELF; place++) {
            sum += foundCards[place].kept ? 1 : 0;
        }
        return sum;
    }

    /** A SHEET. Its row is made once and serves every SHEET that comes in its place. */
    private static final class Sheet {
        final int[] items = new int[MOST_ITEMS];
        boolean there;
        int lane;
        int size;

        void begin(int newLane, int newSize) {
            there = true;
            lane = newLane;
            size = newSize;
            Arrays.fill(items, 0);
        }

        boolean has(int from, int n) {
            // from + n could wrap round, so the end is looked at from its other side
            return from >= 0 && n >= 0 && n <= size && from <= size - n;
        }

        int read(int i) {
            return within(i, 0, MOST_ITEMS - 1) ? items[i] : 0;
        }

        int write(int i, int v) {
            if (!within(i, 0, MOST_ITEMS - 1)) {
                return 0;
            }
            if (lane == BYTES) {
                items[i] = (byte) v;
            } else if (lane == SHORTS) {
                items[i] = (short) v;
            } else {
                items[i] = v;
            }
            return items[i];
        }

        boolean holdsWithin(int from, int n, int least, int most) {
            for (int i = 0; i < n; i++) {
                if (!within(read(from + i), least, most)) {
                    return false;
                }
            }
            return true;
        }
    }

    /** An ENGINE: a place of THE SHELF has one object for all that ever stand there. */
    private static final class Engine {
        final int[] numbers = new int[NUMBERS];
        int sickness;
        boolean there;

        void build(Sheet paper, int from) {
            for (int which = 0; which < NUMBERS; which++) {
                numbers[which] = paper.read(from + which);
            }
            sickness = 0;
            there = true;
        }

        void resemble(Engine other) {
            System.arraycopy(other.numbers, 0, numbers, 0, NUMBERS);
            sickness = other.sickness;
            there = true;
        }

        int late() {
            return sickness >= 0 && sickness < LATE.length ? LATE[sickness] : 0;
        }

        int leak() {
            return sickness >= 0 && sickness < LEAK.length ? LEAK[sickness] : 0;
        }

        int choke() {
            return numbers[CHOKE] + (sickness >= 0 && sickness < CHOKED.length ? CHOKED[sickness] : 0);
        }

        /** X(k). */
        int stroke(int k) {
            int straight = (10000 - cosine(k)) / 20;
            int rod = numbers[ROD];
            if (rod <= 0) {
                return straight;
            }
            int sine = cosine(k - QUARTER);
            return straight + sine * sine / (400000 * rod);
        }

        /** V(k), but for what HANG adds, which is the same at every PLACE. */
        int swing(int notch, int k) {
            int advance = numbers[ADVANCE];
            int ahead = (6 + notch) * cosine(k + advance + late() - QUARTER);
            int back = (6 - notch) * cosine(advance - k - QUARTER);
            return numbers[THROW] * (ahead + back) / 120000;
        }

        int hanging(int notch) {
            return numbers[HANG] * notch / 6;
        }

        int travel(int notch, int k) {
            return swing(notch, k) + hanging(notch);
        }

        int opening(int travel, int end, int what) {
            // STEAM at the head and EXHAUST at the other END open by the same way of the valve
            int beyond = end == what ? travel : -travel;
            beyond -= numbers[what == STEAM ? LAP : INLAP];
            return Math.max(0, Math.min(numbers[PORT], beyond));
        }

        int lead() {
            return opening(travel(FULL_GEAR, 0), HEAD, STEAM);
        }
    }

    /** When each END opens and shuts, and how to make both alike. */
    private static final class Gear {
        final int[][] swings = new int[FULL_GEAR + 1][PLACES];
        int bestAdvance;
        int bestHang;
        int leastUnlike;

        int firstEvent(Engine engine, int notch, int end, int what) {
            fillSwing(engine, notch, swings[0]);
            return firstEventOn(swings[0], engine, notch, end, what);
        }

        int unlike(Engine engine) {
            fillSwings(engine);
            return unlikeBelow(engine, Integer.MAX_VALUE);
        }

        void seekSetting(Engine engine, Engine tried) {
            tried.resemble(engine);
            leastUnlike = Integer.MAX_VALUE;
            for (int advance = LEAST_NUMBER[ADVANCE]; advance <= MOST_NUMBER[ADVANCE]; advance++) {
                tried.numbers[ADVANCE] = advance;
                fillSwings(tried);
                for (int hang = LEAST_NUMBER[HANG]; hang <= MOST_NUMBER[HANG]; hang++) {
                    tried.numbers[HANG] = hang;
                    int unlike = unlikeBelow(tried, leastUnlike);
                    if (unlike < leastUnlike) {
                        bestAdvance = advance;
                        bestHang = hang;
                        leastUnlike = unlike;
                    }
                }
            }
        }

        private void fillSwings(Engine engine) {
            for (int notch = 1; notch < swings.length; notch++) {
                fillSwing(engine, notch, swings[notch]);
            }
        }

        private void fillSwing(Engine engine, int notch, int[] row) {
            for (int k = 0; k < row.length; k++) {
                row[k] = engine.swing(notch, k);
            }
        }

        /** UNLIKE by the rows that stand; once it is not below enough, its exact sum is of no use. */
        private int unlikeBelow(Engine engine, int enough) {
            int sum = 0;
            for (int notch = 1; notch < swings.length && sum < enough; notch++) {
                int head = firstEventOn(swings[notch], engine, notch, 0, CUTS);
                int other = firstEventOn(swings[notch], engine, notch, 1, CUTS);
                sum += head == NONE || other == NONE ? HALF : offHalfTurn(head, other);
            }
            return sum;
        }

        private static int offHalfTurn(int head, int other) {
            int round = Math.floorMod(other - head - HALF, PLACES);
            return Math.min(round, PLACES - round);
        }

        private int firstEventOn(int[] row, Engine engine, int notch, int end, int what) {
            int hanging = engine.hanging(notch);
            int port = what < 2 ? STEAM : EXHAUST;
            boolean opens = what % 2 == 0;
            boolean was = engine.opening(row[row.length - 1] + hanging, end, port) > 0;
            for (int k = 0; k < row.length; k++) {
                boolean now = engine.opening(row[k] + hanging, end, port) > 0;
                if (now != was && now == opens) {
                    return k;
                }
                was = now;
            }
            return NONE;
        }
    }

    /** What draws a CARD: the rows are those of the CARD drawn last. */
    private static final class Pencil {
        final int[] room = new int[PLACES];
        final int[] steam = new int[PLACES];
        final int[] exhaust = new int[PLACES];
        final int[] pressures = new int[PLACES];
        long drawnIn;
        int work;
        int drink;

        void draw(Engine engine, int notch, int boiler, int regulator, int end) {
            prepare(engine, notch, end);
            int live = boiler * regulator / 4;
            int air = engine.numbers[AIR];
            int drain = engine.numbers[DRAIN];
            int choke = engine.choke();
            int leak = engine.leak();
            int pressure = air;
            int ahead = 0;
            drawnIn = 0;
            for (int turned = 1; turned < TURNS * PLACES; turned++) {
                int k = turned % PLACES;
                pressure = share(pressure, room[ahead], room[k]);
                int added = share(live - pressure, steam[k], steam[k] + choke);
                if (added > 0 && turned >= (TURNS - 1) * PLACES) {
                    drawnIn += (long) added * room[k];
                }
                pressure += added;
                pressure += share(air - pressure, exhaust[k], exhaust[k] + drain);
                pressure += share(live - pressure, leak, 200);
                pressures[k] = pressure;
                ahead = k;
            }
        }

        void measure(Engine engine, int notch, int boiler, int regulator) {
            long worked = 0;
            long drunk = 0;
            for (int end = 0; end < 2; end++) {
                draw(engine, notch, boiler, regulator, end);
                worked += pushed();
                drunk += drawnIn;
            }
            work = (int) (worked / 2000);
            drink = (int) (drunk / 1000);
        }

        int mean() {
            int sum = 0;
            for (int k = 0; k < PLACES; k++) {
                sum += pressures[k];
            }
            return sum / PLACES;
        }

        int peak() {
            int most = pressures[0];
            for (int k = 1; k < PLACES; k++) {
                most = Math.max(most, pressures[k]);
            }
            return most;
        }

        int loop() {
            int sum = 0;
            for (int k = 1; k < HALF; k++) {
                sum += pressures[k] < pressures[PLACES - k] ? 1 : 0;
            }
            return sum;
        }

        private void prepare(Engine engine, int notch, int end) {
            int hanging = engine.hanging(notch);
            for (int k = 0; k < PLACES; k++) {
                int stroke = engine.stroke(k);
                room[k] = engine.numbers[CLEAR] + (end == HEAD ? stroke : STROKE - stroke);
                int travel = engine.swing(notch, k) + hanging;
                steam[k] = engine.opening(travel, end, STEAM);
                exhaust[k] = engine.opening(travel, end, EXHAUST);
            }
        }

        /** An END's part of WORK: its ROOM grows and shrinks as its side of the piston is pushed. */
        private long pushed() {
            long sum = 0;
            for (int k = 0; k < PLACES; k++) {
                int on = (k + 1) % PLACES;
                sum += (long) (pressures[k] + pressures[on]) * (room[on] - room[k]);
            }
            return sum;
        }
    }

    /** A FOUND CARD, or the one that others are compared with. */
    private static final class FoundCard {
        final int[] items = new int[PLACES];
        boolean kept;
        int notch;
        int boiler;

        void take(Sheet paper, int from) {
            for (int k = 0; k < PLACES; k++) {
                items[k] = paper.read(from + k);
            }
        }

        int readable() {
            int sum = 0;
            for (int k = 0; k < PLACES; k++) {
                sum += items[k] != UNREAD ? 1 : 0;
            }
            return sum;
        }

        int apart(int[] pressures) {
            int sum = 0;
            for (int k = 0; k < PLACES && k < pressures.length; k++) {
                if (items[k] != UNREAD) {
                    sum += Math.abs(pressures[k] - items[k]);
                }
            }
            return sum;
        }
    }

    /** Which told SICKNESS a FOUND CARD is explained by. */
    private static final class Naming {
        final int[] misfits = new int[SICKNESSES];
        int best;
        int least;

        int misfitBy(FoundCard card, Engine tried, int sickness, Pencil pencil) {
            tried.sickness = sickness;
            pencil.draw(tried, card.notch, card.boiler, WIDE, HEAD);
            return card.apart(pencil.pressures);
        }

        void seek(FoundCard card, Engine tried, Pencil pencil) {
            for (int sickness = 0; sickness < SICKNESSES; sickness++) {
                misfits[sickness] = misfitBy(card, tried, sickness, pencil);
                if (sickness == 0 || misfits[sickness] < least) {
                    best = sickness;
                    least = misfits[sickness];
                }
            }
        }

        int doubt(int number) {
            int others = 0;
            for (int sickness = 0; sickness < SICKNESSES; sickness++) {
                if (sickness != best && misfits[sickness] <= least + number) {
                    others++;
                }
            }
            return others;
        }
    }

    /** Loads over hills. A choice is a NOTCH and a REGULATOR, counted in the order of the PLAN's ties. */
    private static final class Planner {
        final int[] works = new int[CHOICES];
        final int[] drinks = new int[CHOICES];
        final int[] road = new int[STRETCHES * STRETCH_ITEMS];
        /** Least COAL from a STRETCH on to the end, by the minutes that are left. */
        final int[][] leastCoal = new int[STRETCHES + 1][MOST_MINUTES + 1];
        final int[] kept = new int[STRETCHES * PLANNED];
        int stretches;
        int keptStretches;

        boolean takesRoad(Sheet paper, int from, int n) {
            stretches = Math.max(0, Math.min(n, STRETCHES));
            for (int s = 0; s < stretches; s++) {
                int at = STRETCH_ITEMS * s;
                road[at] = paper.read(from + at);
                road[at + 1] = paper.read(from + at + 1);
                road[at + 2] = paper.read(from + at + 2);
                if (!within(road[at], 1, 50) || !within(road[at + 1], 0, 2000)
                        || !within(road[at + 2], 0, 1)) {
                    return false;
                }
            }
            return true;
        }

        void tryOut(Engine engine, int boiler, Pencil pencil) {
            for (int choice = 0; choice < CHOICES; choice++) {
                pencil.measure(engine, notchOf(choice), boiler, regulatorOf(choice));
                works[choice] = pencil.work;
                drinks[choice] = pencil.drink;
            }
        }

        /** COAL of the PLAN, which is kept; NONE, and what was kept stays. */
        int choose(int minutes) {
            int left = Math.max(0, Math.min(minutes, MOST_MINUTES));
            Arrays.fill(leastCoal[stretches], 0);
            for (int s = stretches - 1; s >= 0; s--) {
                weigh(s, left);
            }
            int coal = leastCoal[0][left];
            if (coal == UNREACHED) {
                return NONE;
            }
            for (int s = 0; s < stretches; s++) {
                left -= keepBest(s, left);
            }
            keptStretches = stretches;
            return coal;
        }

        private void weigh(int s, int minutes) {
            int[] here = leastCoal[s];
            int[] onward = leastCoal[s + 1];
            Arrays.fill(here, UNREACHED);
            for (int choice = 0; choice < CHOICES; choice++) {
                int lasts = lasting(s, choice);
                int coal = burning(s, choice);
                for (int left = lasts; lasts > 0 && left <= minutes; left++) {
                    if (onward[left - lasts] != UNREACHED) {
                        here[left] = Math.min(here[left], coal + onward[left - lasts]);
                    }
                }
            }
        }

        /** Keeps the first choice by which the least COAL is met: the minutes that it takes. */
        private int keepBest(int s, int left) {
            for (int choice = 0; choice < CHOICES; choice++) {
                int lasts = lasting(s, choice);
                int coal = burning(s, choice);
                if (lasts > 0 && lasts <= left && leastCoal[s + 1][left - lasts] != UNREACHED
                        && coal + leastCoal[s + 1][left - lasts] == leastCoal[s][left]) {
                    kept[PLANNED * s] = notchOf(choice);
                    kept[PLANNED * s + 1] = regulatorOf(choice);
                    kept[PLANNED * s + 2] = lasts;
                    kept[PLANNED * s + 3] = coal;
                    return lasts;
                }
            }
            return 0;
        }

        /** Minutes on a STRETCH; 0: the ENGINE can't go. */
        private int lasting(int s, int choice) {
            int at = STRETCH_ITEMS * s;
            int speed = Math.min(60, (works[choice] - road[at + 1]) / 10);
            if (speed < 1) {
                return 0;
            }
            int way = 60 * road[at];
            int minutes = way / speed + (way % speed > 0 ? 1 : 0);
            return road[at + 2] == 1 ? minutes + 3 : minutes;
        }

        private int burning(int s, int choice) {
            return drinks[choice] * road[STRETCH_ITEMS * s] / 100;
        }

        private static int notchOf(int choice) {
            return 1 + choice / 4;
        }

        private static int regulatorOf(int choice) {
            return 1 + choice % 4;
        }
    }

    /** THE FIRE. */
    private static final class Fire {
        int gauge;
        int heap;
        int burnt;
        int drunk;
        int blown;
        int minutes;

        void burn() {
            int coals = Math.min(heap, 20);
            heap -= coals;
            burnt += coals;
            gauge += 5 * coals;
            minutes++;
        }

        void give(int wanted) {
            int given = Math.min(gauge, wanted);
            gauge -= given;
            drunk += given;
        }

        void blow() {
            int over = Math.max(0, gauge - 1500);
            gauge -= over;
            blown += over;
        }

        int told(int what) {
            switch (what) {
                case 0: return gauge;
                case 1: return heap;
                case 2: return burnt;
                case 3: return drunk;
                case 4: return blown;
                default: return minutes;
            }
        }
    }
}
