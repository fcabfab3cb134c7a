/**
 * Pleading by dinner: two sides serve dishes in turn, the judge chews and leans to one of them.
 *
 * <p>A call whose numbers are not as told is answered by a number below 0 and counted; no call throws.
 */
public final class DinnerPleas {
    public static final int NONE = -1, BAD = -2, NO = -3, FULL = -4;

    // Some calls may answer below 0, so the document gives them other numbers for what is refused.
    private static final int NOT_SO_MANY = -5, BAD_TEN = -10, BAD_THOUSAND = -1000, FAULT_FROM = -10;

    private static final int TASTES = 5, DISHES = 8, COURSES = 9, READINGS = 6, BYTES = 150;
    private static final int HUNGER_AT_FIRST = 5, MOST_HUNGER = 9, MOST_TOLD = 3, MOST_LEAN = 30;
    private static final int NO_LEAN = -100;
    private static final int MOST_TURNS = 5, LONGEST_ROW = 4, NO_DISH = 8;
    private static final int MOST_SEED = 999999, MOST_DINNERS = 60, ODDS = 10;

    private static final int PLAIN = 0, SAUCE = 1, STEW = 2, BREAD = 3, GLAZE = 4, CHEESE = 5;
    private static final int COURSES_AHEAD_OF_CHEESE = 4, GLAZE_MORE = 3;
    private static final int OF_BOTH = 2, EQUITY = 2;

    // The columns of a dish, with the numbers that each may hold.
    private static final int KIND = 0, TASTE = 1, FORCE = 2, BUTTER = 3, COOK = 4, DISH_WIDE = 5;
    private static final int[] DISH_LEAST = {0, 0, 1, 0, 0};
    private static final int[] DISH_MOST = {5, 4, 9, 9, 2};
    private static final int WAS_SERVED = 5, WOULD_DO = 6;

    // The columns of a course; how the judge leaned ahead of it is kept for undoing alone.
    private static final int SERVED_DISH = 0, SERVED_SIDE = 1, SERVED_DID = 2, LEAN_AHEAD = 3;
    private static final int COURSE_TOLD = 3, COURSE_WIDE = 4;

    // The columns of a reading; its dishes follow.
    private static final int READ_SIDE = 0, READ_VERDICT = 1, READ_MANY = 2, READ_DISHES = 3;

    private final Court now = new Court();
    private final Court draft = new Court();
    private final Image image0 = new Image();
    private final Image image1 = new Image();
    private final Rows text = new Rows(BYTES, 1);
    private final Reader reader = new Reader(text);
    private final Evening evening = new Evening(now);
    private final Tasting tasting = new Tasting(now);
    private final Play bestPlay = new Play(now);
    private final Pardon cheapest = new Pardon(now);
    private final Span span = new Span();
    private long above = 0;
    private long below = 1;
    private int bads = 0;
    private int nos = 0;
    private int fulls = 0;

    public DinnerPleas() {
        now.startAnew(HUNGER_AT_FIRST);
    }

    // ---- a court

    public int court(int hunger) {
        if (!isWithin(hunger, 0, MOST_HUNGER)) {
            return refuse(BAD, BAD);
        }
        int were = now.dishes.many();
        now.startAnew(hunger);
        return were;
    }

    public int dish(int kind, int taste, int force, int butter, int cook) {
        if (!fitsDish(KIND, kind) || !fitsDish(TASTE, taste) || !fitsDish(FORCE, force)
                || !fitsDish(BUTTER, butter) || !fitsDish(COOK, cook)) {
            return refuse(BAD, BAD);
        }
        int row = now.dishes.grow();
        if (row == NONE) {
            return refuse(FULL, FULL);
        }
        now.dishes.put(row, KIND, kind);
        now.dishes.put(row, TASTE, taste);
        now.dishes.put(row, FORCE, force);
        now.dishes.put(row, BUTTER, butter);
        now.dishes.put(row, COOK, cook);
        return row;
    }

    public int book(int a, int b, int n) {
        if (!isTaste(a) || !isTaste(b) || !isWithin(n, -MOST_TOLD, MOST_TOLD)) {
            return refuse(BAD, BAD_TEN);
        }
        int was = now.follows.cell(a, b);
        now.follows.put(a, b, n);
        return was;
    }

    public int lean(int n) {
        if (!isWithin(n, -MOST_LEAN, MOST_LEAN)) {
            return refuse(BAD, BAD_THOUSAND);
        }
        int was = now.leaning;
        now.leaning = n;
        return was;
    }

    public int type(int c) {
        if (!isWithin(c, 0, 127)) {
            return refuse(BAD, BAD);
        }
        int place = text.grow();
        if (place == NONE) {
            return refuse(FULL, FULL);
        }
        text.put(place, 0, c);
        return text.many();
    }

    public int clear() {
        int had = text.many();
        text.cut(0);
        return had;
    }

    public int read() {
        int answer = reader.readInto(draft);
        if (answer > 0) {
            now.takeFrom(draft);
        }
        return answer;
    }

    // ---- courses

    public int serve(int dish, int side) {
        if (!now.hasDish(dish) || !isSide(side)) {
            return refuse(BAD, BAD);
        }
        if (!now.mayServe(dish, side, now.servedSet())) {
            return refuse(NO, NO);
        }
        return now.addCourse(dish, side);
    }

    public int undo() {
        if (now.courses.many() == 0) {
            return refuse(NO, NO);
        }
        now.dropCourse();
        return now.courses.many();
    }

    public int of(int dish, int what) {
        if (!now.hasDish(dish) || !isWithin(what, 0, WOULD_DO)) {
            return refuse(BAD, BAD);
        }
        if (what == WAS_SERVED) {
            return holds(now.servedSet(), dish) ? 1 : 0;
        }
        if (what == WOULD_DO) {
            return now.does(dish, now.servedSet(), now.lastDish());
        }
        return now.dishes.cell(dish, what);
    }

    public int course(int i, int what) {
        if (!isWithin(i, 0, now.courses.many() - 1) || !isWithin(what, 0, COURSE_TOLD - 1)) {
            return refuse(BAD, BAD);
        }
        return now.courses.cell(i, what);
    }

    public int leans() {
        return now.leaning;
    }

    public int verdict() {
        return verdictOf(now.leaning);
    }

    // ---- menus

    public int menu(int dish) {
        if (!now.hasDish(dish)) {
            return refuse(BAD, BAD);
        }
        if (now.isOnMenu(dish)) {
            return refuse(NO, NO);
        }
        now.row.put(now.row.grow(), 0, dish);
        return now.row.many();
    }

    public int wipe() {
        int had = now.row.many();
        now.row.cut(0);
        return had;
    }

    public int comes(int side) {
        if (!isSide(side)) {
            return refuse(BAD, BAD_THOUSAND);
        }
        tasting.menuFromNow(side);
        return now.leaning + tasting.pulled();
    }

    public int did(int side, int i) {
        if (!isSide(side) || i < NONE) {
            return refuse(BAD, BAD_TEN);
        }
        if (i >= now.row.many()) {
            return NOT_SO_MANY;
        }
        tasting.menuFromNow(side);
        return i == NONE ? verdictOf(now.leaning + tasting.pulled()) : Math.abs(tasting.pull(i));
    }

    public int play(int m, int side) {
        if (!isWithin(m, 1, MOST_TURNS) || !isSide(side)) {
            return refuse(BAD, BAD_THOUSAND);
        }
        bestPlay.solve(m, side);
        return now.leaning + toSide(side, bestPlay.gain());
    }

    public int first(int m, int side) {
        if (!isWithin(m, 1, MOST_TURNS) || !isSide(side)) {
            return refuse(BAD, BAD);
        }
        bestPlay.solve(m, side);
        return bestPlay.opening();
    }

    public int pardon(int side, int i) {
        if (!isSide(side) || i < NONE) {
            return refuse(BAD, BAD_TEN);
        }
        cheapest.seek(side);
        if (i == NONE || cheapest.spent() == NONE) {
            return cheapest.spent();
        }
        return i < cheapest.many() ? cheapest.dishAt(i) : NOT_SO_MANY;
    }

    public int cancel(int k) {
        if (k < NONE) {
            return refuse(BAD, BAD_TEN);
        }
        int pairs = 0;
        for (int i = 0; i < now.dishes.many(); i++) {
            for (int j = i + 1; j < now.dishes.many(); j++) {
                if (evening.cancels(i, j)) {
                    if (pairs == k) {
                        return 10 * i + j;
                    }
                    pairs++;
                }
            }
        }
        return k == NONE ? pairs : NOT_SO_MANY;
    }

    public int undoes(int side) {
        if (!isSide(side)) {
            return refuse(BAD, BAD);
        }
        int best = NONE;
        for (int dish = 0; dish < now.dishes.many(); dish++) {
            if (evening.overturns(dish, side) && (best == NONE
                    || now.dishes.cell(dish, BUTTER) < now.dishes.cell(best, BUTTER))) {
                best = dish;
            }
        }
        return best;
    }

    // ---- before, burnt

    public int reading(int side, int verdict) {
        if (!isSide(side) || !isVerdict(verdict)) {
            return refuse(BAD, BAD);
        }
        if (!now.addReading(side, verdict)) {
            return refuse(FULL, FULL);
        }
        return now.readings.many();
    }

    public int forget() {
        int were = now.readings.many();
        now.readings.cut(0);
        return were;
    }

    public int before(int what) {
        if (!isWithin(what, 0, 1)) {
            return refuse(BAD, BAD_THOUSAND);
        }
        fitReadings();
        if (what == 0) {
            return span.size();
        }
        return span.size() > 0 ? span.least() : NO_LEAN;
    }

    public int tells(int side) {
        if (!isSide(side)) {
            return refuse(BAD, BAD);
        }
        fitReadings();
        tasting.menuFromNothing(side);
        int most = 0;
        for (int verdict = 0; verdict <= EQUITY; verdict++) {
            most = Math.max(most, span.left(tasting.pulled(), verdict));
        }
        return most;
    }

    public int sure(int side) {
        if (!isSide(side)) {
            return refuse(BAD, BAD);
        }
        tasting.menuFromNow(side);
        int lean = now.leaning + tasting.pulled();
        for (int i = 0; i < tasting.many(); i++) {
            if (verdictOf(lean - tasting.pull(i)) != verdictOf(lean)) {
                return 0;
            }
        }
        return 1;
    }

    public int burnt(int side, int c, int v) {
        if (!isSide(side) || !isWithin(c, 0, ODDS) || !isVerdict(v)) {
            return refuse(BAD, BAD);
        }
        tasting.menuFromNow(side);
        setFraction(tasting.waysTo(v, c), toPower(ODDS, tasting.many()));
        return 1;
    }

    public int dinners(int seed, int n) {
        if (!isWithin(seed, 0, MOST_SEED) || !isWithin(n, 0, MOST_DINNERS)) {
            return refuse(BAD, BAD);
        }
        int won = 0;
        long x = seed;
        for (int dinner = 0; dinner < n; dinner++) {
            x = evening.dineBy(x);
            if (evening.verdictNow() == 0) {
                won++;
            }
        }
        return won;
    }

    // ---- what there is

    public long part(int what) {
        if (!isWithin(what, 0, 1)) {
            return refuse(BAD, BAD);
        }
        return what == 0 ? above : below;
    }

    public int image(int i) {
        if (!isWithin(i, 0, 1)) {
            return refuse(BAD, BAD);
        }
        imageAt(i).keep(now);
        return 1;
    }

    public int from(int i) {
        if (!isWithin(i, 0, 1)) {
            return refuse(BAD, BAD);
        }
        if (!imageAt(i).isKept()) {
            return refuse(NO, NO);
        }
        imageAt(i).giveTo(now);
        return 1;
    }

    public int status(int what) {
        switch (what) {
            case 0:
                return bads;
            case 1:
                return nos;
            case 2:
                return fulls;
            default:
                return refuse(BAD, -1);
        }
    }

    public int count(int what) {
        if (!isWithin(what, 0, 5)) {
            return refuse(BAD, BAD);
        }
        return howMany(what);
    }

    public long digest() {
        long h = 1019;
        for (int what = 0; what <= 5; what++) {
            h = mix(h, howMany(what));
        }
        h = mix(h, now.leaning);
        h = now.follows.mixInto(h, TASTES);
        h = now.dishes.mixInto(h, DISH_WIDE);
        h = now.courses.mixInto(h, COURSE_TOLD);
        h = now.row.mixInto(h, 1);
        for (int i = 0; i < now.readings.many(); i++) {
            h = now.readings.mixRowInto(h, i, READ_DISHES + now.readings.cell(i, READ_MANY));
        }
        return mix(mix(h, above), below);
    }

    // ---- within the object

    /** Counts a refused call; the answer is apart from the reason, as some calls tell another number. */
    private int refuse(int reason, int answer) {
        if (reason == BAD) {
            bads++;
        } else if (reason == NO) {
            nos++;
        } else {
            fulls++;
        }
        return answer;
    }

    private int howMany(int what) {
        switch (what) {
            case 0:
                return now.dishes.many();
            case 1:
                return now.hungerBehind(now.courses.many());
            case 2:
                return now.courses.many();
            case 3:
                return now.row.many();
            case 4:
                return now.readings.many();
            default:
                return text.many();
        }
    }

    private Image imageAt(int i) {
        return i == 0 ? image0 : image1;
    }

    private void fitReadings() {
        span.widen();
        for (int i = 0; i < now.readings.many(); i++) {
            tasting.readingFromNothing(i);
            span.narrow(tasting.pulled(), now.readings.cell(i, READ_VERDICT));
        }
    }

    private void setFraction(long ways, long all) {
        long divisor = commonDivisor(ways, all);
        if (divisor > 0) {
            above = ways / divisor;
            below = all / divisor;
        }
    }

    // ---- numbers

    private static boolean isWithin(int n, int least, int most) {
        return n >= least && n <= most;
    }

    private static boolean isSide(int side) {
        return isWithin(side, 0, 1);
    }

    private static boolean isTaste(int taste) {
        return isWithin(taste, 0, TASTES - 1);
    }

    private static boolean isVerdict(int verdict) {
        return isWithin(verdict, 0, EQUITY);
    }

    private static boolean fitsDish(int column, int n) {
        return isWithin(column, 0, DISH_WIDE - 1) && isWithin(n, DISH_LEAST[column], DISH_MOST[column]);
    }

    private static int verdictOf(int lean) {
        if (lean > 0) {
            return 0;
        }
        return lean < 0 ? 1 : EQUITY;
    }

    /** Each kind goes by the one that it is under: a glaze by the sauce, a cheese by the stew. */
    private static int power(int kind, int force, int n, int hungry, boolean sameTaste, boolean otherCook) {
        int sauce = sameTaste ? 2 * force : force;
        int stew = force + n;
        switch (kind) {
            case SAUCE:
                return sauce;
            case STEW:
                return stew;
            case BREAD:
                return force + hungry;
            case GLAZE:
                return otherCook ? sauce + GLAZE_MORE : sauce;
            case CHEESE:
                return n >= COURSES_AHEAD_OF_CHEESE ? stew : 0;
            case PLAIN:
            default:
                return force;
        }
    }

    private static int toSide(int side, int n) {
        return side == 0 ? n : -n;
    }

    private static boolean holds(int set, int dish) {
        return (set >> dish & 1) != 0;
    }

    private static int with(int set, int dish) {
        return set | 1 << dish;
    }

    private static long mix(long h, long v) {
        return 31 * h + v;
    }

    private static long toPower(long base, int times) {
        long product = 1;
        for (int i = 0; i < times; i++) {
            product *= base;
        }
        return product;
    }

    private static long commonDivisor(long a, long b) {
        // 100 steps are more than any two longs need; the counter is there so that the end can be seen.
        for (int step = 0; step < 100 && b != 0; step++) {
            long rest = a % b;
            a = b;
            b = rest;
        }
        return a;
    }

    /** Rows of numbers, up to a bound; every index is looked at here, so that no caller can step outside. */
    private static final class Rows {
        private final int most;
        private final int wide;
        private final int[] cells;
        private int many = 0;

        Rows(int most, int wide) {
            this.most = Math.max(0, most);
            this.wide = Math.max(0, wide);
            this.cells = new int[this.most * this.wide];
        }

        int many() {
            return many;
        }

        int cell(int i, int column) {
            boolean there = i >= 0 && i < many && column >= 0 && column < wide;
            return there ? cells[i * wide + column] : 0;
        }

        void put(int i, int column, int n) {
            if (i >= 0 && i < many && column >= 0 && column < wide) {
                cells[i * wide + column] = n;
            }
        }

        /** One row more, all 0: its number, or NONE if there are as many as may be. */
        int grow() {
            if (many >= most) {
                return NONE;
            }
            many++;
            for (int column = 0; column < wide; column++) {
                put(many - 1, column, 0);
            }
            return many - 1;
        }

        void cut(int left) {
            many = Math.max(0, Math.min(many, left));
        }

        void takeFrom(Rows other) {
            if (other.cells.length == cells.length) {
                System.arraycopy(other.cells, 0, cells, 0, cells.length);
                many = other.many;
            }
        }

        long mixInto(long h, int columns) {
            for (int i = 0; i < many; i++) {
                h = mixRowInto(h, i, columns);
            }
            return h;
        }

        long mixRowInto(long h, int i, int columns) {
            for (int column = 0; column < columns; column++) {
                h = mix(h, cell(i, column));
            }
            return h;
        }
    }

    /** All that an image keeps: dishes, the book, the judge, the courses, the menu, the readings. */
    private static final class Court {
        private final Rows dishes = new Rows(DISHES, DISH_WIDE);
        private final Rows follows = new Rows(TASTES, TASTES);
        private final Rows courses = new Rows(COURSES, COURSE_WIDE);
        private final Rows row = new Rows(DISHES, 1);
        private final Rows readings = new Rows(READINGS, READ_DISHES + DISHES);
        private int hunger = HUNGER_AT_FIRST;
        private int leaning = 0;

        void startAnew(int toldHunger) {
            dishes.cut(0);
            courses.cut(0);
            row.cut(0);
            readings.cut(0);
            follows.cut(0);
            for (int taste = 0; taste < TASTES; taste++) {
                follows.grow();
            }
            hunger = toldHunger;
            leaning = 0;
        }

        void takeFrom(Court other) {
            dishes.takeFrom(other.dishes);
            follows.takeFrom(other.follows);
            courses.takeFrom(other.courses);
            row.takeFrom(other.row);
            readings.takeFrom(other.readings);
            hunger = other.hunger;
            leaning = other.leaning;
        }

        boolean hasDish(int dish) {
            return isWithin(dish, 0, dishes.many() - 1);
        }

        boolean isOnMenu(int dish) {
            for (int i = 0; i < row.many(); i++) {
                if (row.cell(i, 0) == dish) {
                    return true;
                }
            }
            return false;
        }

        /** The dishes served, a bit each: as none is served twice, their number is that of the courses. */
        int servedSet() {
            int set = 0;
            for (int i = 0; i < courses.many(); i++) {
                set = with(set, courses.cell(i, SERVED_DISH));
            }
            return set;
        }

        int lastDish() {
            int many = courses.many();
            return many > 0 ? courses.cell(many - 1, SERVED_DISH) : NONE;
        }

        int hungerBehind(int n) {
            return hunger > n ? hunger - n : 0;
        }

        boolean isFree(int dish, int served) {
            return dish >= 0 && dish < dishes.many() && !holds(served, dish)
                    && Integer.bitCount(served) < COURSES;
        }

        boolean mayServe(int dish, int side, int served) {
            int cook = dishes.cell(dish, COOK);
            return isFree(dish, served) && (cook == OF_BOTH || cook == side);
        }

        int does(int dish, int served, int last) {
            int n = Integer.bitCount(served);
            int kind = dishes.cell(dish, KIND);
            int force = dishes.cell(dish, FORCE);
            int hungry = hungerBehind(n);
            if (last == NONE) {
                return power(kind, force, n, hungry, false, false);
            }
            int taste = dishes.cell(dish, TASTE);
            int lastTaste = dishes.cell(last, TASTE);
            boolean otherCook = dishes.cell(dish, COOK) != dishes.cell(last, COOK);
            int power = power(kind, force, n, hungry, taste == lastTaste, otherCook);
            return Math.max(0, power + follows.cell(lastTaste, taste));
        }

        int addCourse(int dish, int side) {
            int did = does(dish, servedSet(), lastDish());
            int i = courses.grow();
            courses.put(i, SERVED_DISH, dish);
            courses.put(i, SERVED_SIDE, side);
            courses.put(i, SERVED_DID, did);
            courses.put(i, LEAN_AHEAD, leaning);
            leaning += toSide(side, did);
            return did;
        }

        void dropCourse() {
            int i = courses.many() - 1;
            if (i >= 0) {
                leaning = courses.cell(i, LEAN_AHEAD);
                courses.cut(i);
            }
        }

        boolean addReading(int side, int verdict) {
            int i = readings.grow();
            if (i == NONE) {
                return false;
            }
            readings.put(i, READ_SIDE, side);
            readings.put(i, READ_VERDICT, verdict);
            readings.put(i, READ_MANY, row.many());
            for (int k = 0; k < row.many(); k++) {
                readings.put(i, READ_DISHES + k, row.cell(k, 0));
            }
            return true;
        }
    }

    /** A court kept for later. */
    private static final class Image {
        private final Court court = new Court();
        private boolean kept = false;

        boolean isKept() {
            return kept;
        }

        void keep(Court other) {
            court.takeFrom(other);
            kept = true;
        }

        void giveTo(Court other) {
            other.takeFrom(court);
        }
    }

    /** What would be if dishes were served from some point on; the court itself is left alone. */
    private static final class Evening {
        private final Court court;
        private int served = 0;
        private int last = NONE;
        private int lean = 0;

        Evening(Court court) {
            this.court = court;
        }

        void beginNow() {
            served = court.servedSet();
            last = court.lastDish();
            lean = court.leaning;
        }

        void beginFromNothing() {
            served = 0;
            last = NONE;
            lean = 0;
        }

        int serveBy(int side, int dish) {
            int does = court.does(dish, served, last);
            lean += toSide(side, does);
            served = with(served, dish);
            last = dish;
            return does;
        }

        int verdictNow() {
            return verdictOf(lean);
        }

        /** Whose dishes they are does not matter here: the document only says who serves which. */
        boolean cancels(int i, int j) {
            return staysBehind(0, i, j) && staysBehind(1, j, i);
        }

        boolean overturns(int dish, int side) {
            beginNow();
            if (!court.mayServe(dish, side, served)) {
                return false;
            }
            int was = verdictNow();
            serveBy(side, dish);
            return verdictNow() != was;
        }

        /** One dinner drawn by x: what x is behind it, as the next dinner draws on. */
        long dineBy(long x) {
            beginNow();
            int side = 0;
            for (int n = Integer.bitCount(served); n < COURSES; n++) {
                x = (x * 1103515245L + 12345L) % 2147483648L;
                int dish = (int) (x / 65536L % 9L);
                if (!court.mayServe(dish, side, served)) {
                    return x;
                }
                serveBy(side, dish);
                side = 1 - side;
            }
            return x;
        }

        private boolean staysBehind(int side, int ahead, int behind) {
            beginNow();
            if (!court.isFree(ahead, served)) {
                return false;
            }
            serveBy(side, ahead);
            if (!court.isFree(behind, served)) {
                return false;
            }
            serveBy(1 - side, behind);
            return lean == court.leaning;
        }
    }

    /** A row of dishes served by turns, whoever's they are, and how far each pulls the judge (to side 0: above 0). */
    private static final class Tasting {
        private static final int DISH = 0, PULL = 1;

        private final Court court;
        private final Evening evening;
        private final Rows row = new Rows(DISHES, 2);
        private int sum = 0;

        Tasting(Court court) {
            this.court = court;
            this.evening = new Evening(court);
        }

        int many() {
            return row.many();
        }

        int pull(int i) {
            return row.cell(i, PULL);
        }

        int pulled() {
            return sum;
        }

        void menuFromNow(int side) {
            takeMenu();
            evening.beginNow();
            serveAll(side);
        }

        void menuFromNothing(int side) {
            takeMenu();
            evening.beginFromNothing();
            serveAll(side);
        }

        void readingFromNothing(int reading) {
            row.cut(0);
            for (int i = 0; i < court.readings.cell(reading, READ_MANY); i++) {
                row.put(row.grow(), DISH, court.readings.cell(reading, READ_DISHES + i));
            }
            evening.beginFromNothing();
            serveAll(court.readings.cell(reading, READ_SIDE));
        }

        /** In how many of 10 to the power of many() ways the verdict is v, each dish being burnt in c of 10. */
        long waysTo(int v, int c) {
            long ways = 0;
            for (int whole = 0; whole < 1 << many(); whole++) {
                if (verdictOf(court.leaning + pullOf(whole)) == v) {
                    int kept = Integer.bitCount(whole);
                    ways += toPower(ODDS - c, kept) * toPower(c, many() - kept);
                }
            }
            return ways;
        }

        /** A burnt dish is served all the same, so that what the others do is as if none were. */
        private int pullOf(int whole) {
            int pull = 0;
            for (int i = 0; i < many(); i++) {
                if (holds(whole, i)) {
                    pull += pull(i);
                }
            }
            return pull;
        }

        private void takeMenu() {
            row.cut(0);
            for (int i = 0; i < court.row.many(); i++) {
                row.put(row.grow(), DISH, court.row.cell(i, 0));
            }
        }

        private void serveAll(int first) {
            int side = first;
            sum = 0;
            for (int i = 0; i < row.many(); i++) {
                int dish = row.cell(i, DISH);
                if (court.isFree(dish, evening.served)) {
                    int pull = toSide(side, evening.serveBy(side, dish));
                    row.put(i, PULL, pull);
                    sum += pull;
                    side = 1 - side;
                }
            }
        }
    }

    /** Both sides serving as well as they can, some turns long. */
    private static final class Play {
        // Beyond what any five courses can pull the judge.
        private static final int FAR = 1000;

        private final Court court;
        private int gain = 0;
        private int opening = NO_DISH;

        Play(Court court) {
            this.court = court;
        }

        /** By how much the judge leans more to the side that is first. */
        int gain() {
            return gain;
        }

        int opening() {
            return opening;
        }

        void solve(int turns, int side) {
            int served = court.servedSet();
            int last = court.lastDish();
            gain = -FAR;
            opening = NO_DISH;
            for (int dish = 0; dish < court.dishes.many(); dish++) {
                if (court.mayServe(dish, side, served)) {
                    takeIfBetter(dish, ifServed(dish, turns, side, served, last, gain, FAR));
                }
            }
            takeIfBetter(NO_DISH, ifNone(turns, side, served, last, gain, FAR));
        }

        private void takeIfBetter(int dish, int found) {
            if (found > gain) {
                gain = found;
                opening = dish;
            }
        }

        private int ifServed(int dish, int turns, int side, int served, int last, int low, int high) {
            int does = court.does(dish, served, last);
            return does - gains(turns - 1, 1 - side, with(served, dish), dish, does - high, does - low);
        }

        private int ifNone(int turns, int side, int served, int last, int low, int high) {
            return -gains(turns - 1, 1 - side, served, last, -high, -low);
        }

        /** What the mover can gain: exact between low and high; outside of them only that it is outside. */
        private int gains(int turns, int side, int served, int last, int low, int high) {
            if (turns <= 0) {
                return 0;
            }
            int best = low;
            for (int dish = 0; dish < court.dishes.many() && best < high; dish++) {
                if (court.mayServe(dish, side, served)) {
                    best = Math.max(best, ifServed(dish, turns, side, served, last, best, high));
                }
            }
            if (best < high) {
                best = Math.max(best, ifNone(turns, side, served, last, best, high));
            }
            return best;
        }
    }

    /** The row of least butter by which one side alone wins the verdict. */
    private static final class Pardon {
        private final Court court;
        private final Rows trial = new Rows(LONGEST_ROW, 1);
        private final Rows best = new Rows(LONGEST_ROW, 1);
        private int butter = NONE;

        Pardon(Court court) {
            this.court = court;
        }

        /** The butter of the row; NONE: there is no row. */
        int spent() {
            return butter;
        }

        int many() {
            return best.many();
        }

        int dishAt(int i) {
            return best.cell(i, 0);
        }

        void seek(int side) {
            butter = NONE;
            best.cut(0);
            if (verdictOf(court.leaning) == side) {
                butter = 0;
            } else {
                tryBehind(side, court.servedSet(), court.lastDish(), court.leaning, 0, 0);
            }
        }

        /** Tries rows in their order, so that of like ones the first is kept. */
        private void tryBehind(int side, int served, int last, int lean, int cost, int depth) {
            if (depth >= LONGEST_ROW) {
                return;
            }
            for (int dish = 0; dish < court.dishes.many(); dish++) {
                int costs = cost + court.dishes.cell(dish, BUTTER);
                // More dishes never cost less, so what is not better now cannot become so.
                if (court.mayServe(dish, side, served) && isBetter(costs, depth + 1)) {
                    trial.cut(depth);
                    trial.put(trial.grow(), 0, dish);
                    int then = lean + toSide(side, court.does(dish, served, last));
                    if (verdictOf(then) == side) {
                        butter = costs;
                        best.takeFrom(trial);
                    } else {
                        tryBehind(side, with(served, dish), dish, then, costs, depth + 1);
                    }
                }
            }
        }

        private boolean isBetter(int costs, int size) {
            return butter == NONE || costs < butter || costs == butter && size < best.many();
        }
    }

    /** The leans that are left when verdicts are known: always a span without gaps. */
    private static final class Span {
        private int low = -MOST_LEAN;
        private int high = MOST_LEAN;

        void widen() {
            low = -MOST_LEAN;
            high = MOST_LEAN;
        }

        int least() {
            return low;
        }

        int size() {
            return Math.max(0, high - low + 1);
        }

        void narrow(int pull, int verdict) {
            low = leastFor(pull, verdict);
            high = mostFor(pull, verdict);
        }

        /** How many would be left if a row that pulls so far had this verdict. */
        int left(int pull, int verdict) {
            return Math.max(0, mostFor(pull, verdict) - leastFor(pull, verdict) + 1);
        }

        private int leastFor(int pull, int verdict) {
            if (verdict == 1) {
                return low;
            }
            return Math.max(low, verdict == 0 ? 1 - pull : -pull);
        }

        private int mostFor(int pull, int verdict) {
            if (verdict == 0) {
                return high;
            }
            return Math.min(high, verdict == 1 ? -1 - pull : -pull);
        }
    }

    /** Reads the text token by token; where a token can not stand, its place is the fault. */
    private static final class Reader {
        private static final int END = 0, WORD = 1, NUMBER = 2, STOP = 3, OTHER = 4;
        private static final int WITHIN_NO_BOUNDS = 100;
        private static final int[] COURT_LEAST = {0};
        private static final int[] COURT_MOST = {9};
        private static final int[] BOOK_LEAST = {0, 0, 0};
        private static final int[] BOOK_MOST = {4, 4, 3};

        private final Rows text;
        private final Rows numbers = new Rows(DISH_WIDE, 1);
        private int at = 0;
        private int start = 0;
        private int token = END;
        private int value = NONE;

        Reader(Rows text) {
            this.text = text;
        }

        /** How many items were read into the draft, or -10 less the fault: the draft is then of no use. */
        int readInto(Court draft) {
            at = 0;
            // Each item takes a byte at least, so the text's length bounds their number.
            for (int items = 0; items <= text.many(); items++) {
                next();
                if (token == END && items > 0) {
                    return items;
                }
                if (!takesItem(draft, items == 0)) {
                    return FAULT_FROM - start;
                }
            }
            return FAULT_FROM - text.many();
        }

        private boolean takesItem(Court draft, boolean isFirst) {
            if (isFirst) {
                return isWord("court") && takesCourt(draft);
            }
            if (isWord("dish")) {
                return takesDish(draft);
            }
            if (isWord("more")) {
                return takesFollows(draft, 1);
            }
            return isWord("less") && takesFollows(draft, -1);
        }

        private boolean takesCourt(Court draft) {
            if (!takesNumbers(COURT_LEAST, COURT_MOST)) {
                return false;
            }
            draft.startAnew(numbers.cell(0, 0));
            return true;
        }

        private boolean takesDish(Court draft) {
            // A ninth dish is at fault by its word, ahead of its numbers.
            int row = draft.dishes.grow();
            if (row == NONE || !takesNumbers(DISH_LEAST, DISH_MOST)) {
                return false;
            }
            for (int column = 0; column < DISH_WIDE; column++) {
                draft.dishes.put(row, column, numbers.cell(column, 0));
            }
            return true;
        }

        private boolean takesFollows(Court draft, int sign) {
            if (!takesNumbers(BOOK_LEAST, BOOK_MOST)) {
                return false;
            }
            draft.follows.put(numbers.cell(0, 0), numbers.cell(1, 0), sign * numbers.cell(2, 0));
            return true;
        }

        /** The numbers of an item within their bounds, and what ends it. */
        private boolean takesNumbers(int[] least, int[] most) {
            numbers.cut(0);
            for (int i = 0; i < least.length && i < most.length; i++) {
                next();
                if (token != NUMBER || value < least[i] || value > most[i]) {
                    return false;
                }
                numbers.put(numbers.grow(), 0, value);
            }
            next();
            return token == STOP;
        }

        private boolean isWord(String word) {
            if (token != WORD || at - start != word.length()) {
                return false;
            }
            for (int i = 0; i < word.length(); i++) {
                if (text.cell(start + i, 0) != word.charAt(i)) {
                    return false;
                }
            }
            return true;
        }

        /** Goes to the next token: where it starts, of what sort it is, its value if it is a number. */
        private void next() {
            while (at < text.many() && text.cell(at, 0) == ' ') {
                at++;
            }
            start = at;
            if (at >= text.many()) {
                token = END;
                return;
            }
            token = sortOf(text.cell(at, 0));
            value = text.cell(at, 0) - '0';
            at++;
            boolean isLong = token == WORD || token == NUMBER;
            while (isLong && at < text.many() && sortOf(text.cell(at, 0)) == token) {
                // A third figure spoils the whole number.
                value = at - start < 2 ? 10 * value + text.cell(at, 0) - '0' : WITHIN_NO_BOUNDS;
                at++;
            }
        }

        private static int sortOf(int c) {
            if (c >= 'a' && c <= 'z') {
                return WORD;
            }
            if (c >= '0' && c <= '9') {
                return NUMBER;
            }
            return c == ';' ? STOP : OTHER;
        }
    }
}
