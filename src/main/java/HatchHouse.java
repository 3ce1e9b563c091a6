import java.util.Arrays;

/** A fish hatchery. The document's promises tell what every call answers; the comments here tell why the code is as it is. */
public final class HatchHouse {
    public static final int NONE = -1, BAD = -1, FULL = -2, LACK = -3;

    private static final int NULL = 1, INDEX = 2, CAST = 3, SIZE = 4, STORE = 5, ZERO = 6, STATE = 7, SPENT = 30;
    private static final int NOTHING = -1, ROW = 0, GRID = 1, NET = 2, FISH = 3, CARD = 4;
    private static final int TRUTHS = 0, BYTES = 1, SHORTS = 2, CHARS = 3, INTS = 4, LONGS = 5, FLOATS = 6, DOUBLES = 7;
    private static final int MOST_THINGS = 120, MOST_ITEMS = 16, MOST_PLACES = 8, MOST_EGGS = 0x7fffffff;
    private static final int TANKS = 6, PLANS = 4, CAUSES = 4;
    private static final int FIELDS = 11, NEXT = 8, BOUND_FISH = 10;
    private static final int GRAMS = 0, MOTHER = 1, FATHER = 2, FISH_CELLS = 3;

    private final Keeper keeper;
    private final Stock stock;
    private final Tank[] tanks;
    private final Plan[] plans;
    private final Readings readings;
    private final Kinship kinship;
    private int fault;
    private int cameOver;
    private int today;
    private int minutes;

    public HatchHouse() {
        keeper = new Keeper();
        stock = keeper.stock;
        tanks = keeper.tanks;
        plans = keeper.plans;
        readings = new Readings();
        kinship = new Kinship();
    }

    // ---- things

    public int row(int lane, int n) {
        if (!isLane(lane) || n > MOST_ITEMS) return refused(BAD);
        if (!stock.hasRoom(1)) return refused(FULL);
        if (n < 0) return refused(SIZE);
        return fine(stock.add(new Thing(ROW, lane, n, 0)));
    }

    public int put(int row, int i, long bits) {
        if (stock.isStrange(row)) return refused(BAD);
        Thing items = stock.find(row);
        int no = items.noPlace(ROW, i);
        if (no != 0) return refused(no);
        items.cells[i] = Thing.fit(items.mark, bits);
        return fine(1);
    }

    public long get(int row, int i) {
        if (stock.isStrange(row)) return refusedLong(BAD);
        Thing items = stock.find(row);
        int no = items.noPlace(ROW, i);
        if (no != 0) return refusedLong(no);
        return fineLong(items.cells[i]);
    }

    public int grid(int lane, int a, int b) {
        if (!isLane(lane) || a > MOST_PLACES || b < -1 || b > MOST_ITEMS) return refused(BAD);
        int rows = b < 0 ? 0 : Math.max(a, 0);
        if (!stock.hasRoom(rows + 1)) return refused(FULL);
        if (a < 0) return refused(SIZE);
        Thing made = new Thing(GRID, lane, a, NONE);
        for (int i = 0; i < rows; i++) made.cells[i] = stock.add(new Thing(ROW, lane, b, 0));
        return fine(stock.add(made));
    }

    public int tray(int grid, int i) {
        return linkAt(grid, GRID, i);
    }

    public int setTray(int grid, int i, int row) {
        if (stock.isStrange(grid) || stock.isStrange(row)) return refused(BAD);
        Thing places = stock.find(grid);
        Thing items = stock.find(row);
        int no = places.misfit(GRID);
        if (no == 0 && row != NONE) no = items.misfit(ROW);
        if (no == 0) no = places.noPlace(GRID, i);
        if (no == 0 && row != NONE && items.mark != places.mark) no = STORE;
        if (no != 0) return refused(no);
        places.cells[i] = row;
        return fine(1);
    }

    public long cell(int grid, int i, int j) {
        if (stock.isStrange(grid)) return refusedLong(BAD);
        int no = stock.noCell(grid, i, j);
        if (no != 0) return refusedLong(no);
        return fineLong(stock.trayOf(grid, i).cells[j]);
    }

    public long raise(int grid, int i, int j, long v, boolean after) {
        if (stock.isStrange(grid)) return refusedLong(BAD);
        int no = stock.noCell(grid, i, j);
        Thing items = stock.trayOf(grid, i);
        if (no == 0 && items.mark == TRUTHS) no = CAST;
        if (no != 0) return refusedLong(no);
        long was = items.cells[j];
        items.cells[j] = Thing.raised(items.mark, was, v);
        return fineLong(after ? items.cells[j] : was);
    }

    public int move(int from, int i, int to, int j, int n) {
        if (stock.isStrange(from) || stock.isStrange(to)) return refused(BAD);
        Thing source = stock.find(from);
        Thing goal = stock.find(to);
        int no = source.misfit(ROW);
        if (no == 0) no = goal.misfit(ROW);
        if (no == 0 && source.mark != goal.mark) no = STORE;
        if (no == 0 && !(source.hasSpan(i, n) && goal.hasSpan(j, n))) no = INDEX;
        if (no != 0) return refused(no);
        System.arraycopy(source.cells, i, goal.cells, j, n);
        return fine(1);
    }

    public int net(int kind, int n) {
        if (!isKind(kind) || n > MOST_PLACES) return refused(BAD);
        if (!stock.hasRoom(1)) return refused(FULL);
        if (n < 0) return refused(SIZE);
        return fine(stock.add(new Thing(NET, kind, n, NONE)));
    }

    public int fish(int kind, int grams, int mother, int father) {
        if (kind < 1 || kind > 4 || grams < 0) return refused(BAD);
        if (stock.isStrange(mother) || stock.isStrange(father)) return refused(BAD);
        if (!stock.hasRoom(1)) return refused(FULL);
        if (!isNoneOr(mother, FISH) || !isNoneOr(father, FISH)) return refused(CAST);
        Thing made = new Thing(FISH, kind, FISH_CELLS, 0);
        made.cells[GRAMS] = grams;
        made.cells[MOTHER] = mother;
        made.cells[FATHER] = father;
        return fine(stock.add(made));
    }

    public int putIn(int net, int i, int fish) {
        if (stock.isStrange(net) || stock.isStrange(fish)) return refused(BAD);
        Thing meshes = stock.find(net);
        Thing swimmer = stock.find(fish);
        int no = meshes.misfit(NET);
        if (no == 0 && fish != NONE) no = swimmer.misfit(FISH);
        if (no == 0) no = meshes.noPlace(NET, i);
        if (no == 0 && fish != NONE && !Kinds.isOf(swimmer.mark, meshes.mark)) no = STORE;
        if (no != 0) return refused(no);
        meshes.cells[i] = fish;
        return fine(1);
    }

    public int letOut(int net, int i, int kind) {
        if (stock.isStrange(net) || !isKind(kind)) return refused(BAD);
        Thing meshes = stock.find(net);
        int no = meshes.noPlace(NET, i);
        int fish = meshes.link(i);
        if (no == 0 && fish == NONE) no = NULL;
        if (no == 0 && !Kinds.isOf(stock.find(fish).mark, kind)) no = CAST;
        if (no != 0) return refused(no);
        meshes.cells[i] = NONE;
        return fine(fish);
    }

    public int pass(int net, int i, int to, int j, int n) {
        if (stock.isStrange(net) || stock.isStrange(to) || (net == to && net != NONE)) return refused(BAD);
        Thing source = stock.find(net);
        Thing goal = stock.find(to);
        cameOver = 0;
        int no = source.misfit(NET);
        if (no == 0) no = goal.misfit(NET);
        if (no == 0 && !(source.hasSpan(i, n) && goal.hasSpan(j, n))) no = INDEX;
        if (no != 0) return refused(no);
        for (int k = 0; k < n; k++) {
            int fish = source.link(i + k);
            if (fish != NONE && !Kinds.isOf(stock.find(fish).mark, goal.mark)) return refused(STORE);
            goal.cells[j + k] = fish;
            source.cells[i + k] = NONE;
            cameOver++;
        }
        return fine(n);
    }

    public int passed() {
        return fine(cameOver);
    }

    public int mesh(int net, int i) {
        return linkAt(net, NET, i);
    }

    public long says(int fish, int what, int n) {
        if (stock.isStrange(fish) || what < 0 || what > 4) return refusedLong(BAD);
        Thing speaker = stock.find(fish);
        int no = speaker.misfit(FISH);
        if (no == 0 && !Kinds.hasMember(speaker.mark, what)) no = CAST;
        if (no == 0 && what == Kinds.EGGS && n == 0) no = ZERO;
        if (no != 0) return refusedLong(no);
        return fineLong(Kinds.member(speaker.mark, what, speaker.cells[GRAMS], n));
    }

    public int grams(int fish, int g) {
        if (stock.isStrange(fish) || g < 0) return refused(BAD);
        Thing weighed = stock.find(fish);
        int no = weighed.misfit(FISH);
        if (no != 0) return refused(no);
        int was = weighed.link(GRAMS);
        weighed.cells[GRAMS] = g;
        return fine(was);
    }

    public int card() {
        if (!stock.hasRoom(1)) return refused(FULL);
        Thing made = new Thing(CARD, NONE, FIELDS, 0);
        for (int i = NEXT; i < FIELDS; i++) made.cells[i] = NONE;
        return fine(stock.add(made));
    }

    public long field(int card, int i) {
        if (stock.isStrange(card) || i < 0 || i >= FIELDS) return refusedLong(BAD);
        Thing fields = stock.find(card);
        int no = fields.misfit(CARD);
        if (no != 0) return refusedLong(no);
        return fineLong(fields.cells[i]);
    }

    public int setField(int card, int i, long v) {
        if (stock.isStrange(card) || i < 0 || i >= FIELDS) return refused(BAD);
        if (i >= NEXT && (v < NONE || v >= stock.made)) return refused(BAD);
        Thing fields = stock.find(card);
        int no = fields.misfit(CARD);
        if (no == 0 && i >= NEXT && !isNoneOr((int) v, i == BOUND_FISH ? FISH : CARD)) no = CAST;
        if (no != 0) return refused(no);
        fields.cells[i] = i >= NEXT ? v : Thing.fit(i, v);
        return fine(1);
    }

    public int along(int card) {
        if (stock.isStrange(card)) return refused(BAD);
        int no = stock.find(card).misfit(CARD);
        if (no != 0) return refused(no);
        return fine(stock.walk(card));
    }

    public int copy(int thing, boolean far) {
        if (stock.isStrange(thing)) return refused(BAD);
        if (thing == NONE) return refused(NULL);
        Thing first = stock.find(thing);
        boolean deep = far && first.sort == GRID;
        if (!stock.hasRoom(deep ? first.standing() + 1 : 1)) return refused(FULL);
        Thing made = first.twin();
        if (deep) stock.twinTrays(made);
        return fine(stock.add(made));
    }

    public int match(int a, int b) {
        if (stock.isStrange(a) || stock.isStrange(b)) return refused(BAD);
        if (a == NONE || b == NONE) return refused(NULL);
        return fine(stock.alike(a, b) ? 1 : 0);
    }

    public int told(int thing, int what) {
        if (stock.isStrange(thing) || what < 0 || what > 5) return BAD;
        if (thing == NONE) return -10 - NULL;
        Thing asked = stock.find(thing);
        switch (what) {
            case 0: return asked.sort;
            case 1: return asked.mark;
            case 2: return asked.sort == FISH || asked.sort == CARD ? 0 : asked.cells.length;
            case 3: return asked.sort == FISH ? asked.link(MOTHER) : NONE;
            case 4: return asked.sort == FISH ? asked.link(FATHER) : NONE;
            default: return asked.taken ? 1 : 0;
        }
    }

    public int as(int fish, int kind) {
        if (stock.isStrange(fish) || !isKind(kind)) return refused(BAD);
        Thing seen = stock.find(fish);
        int no = seen.misfit(FISH);
        if (no == 0 && !Kinds.isOf(seen.mark, kind)) no = CAST;
        return no != 0 ? refused(no) : fine(1);
    }

    // ---- readings

    public long reading(int row, int what, boolean skip) {
        if (stock.isStrange(row) || what < 0 || what > 4) return refusedLong(BAD);
        Thing items = stock.find(row);
        int no = items.noReadings();
        if (no != 0) return refusedLong(no);
        boolean whole = readings.gather(items);
        return fineLong(whole || skip ? readings.work(what) : Real.LOST);
    }

    public int test(int row, int i, int j, int op, boolean denied) {
        if (stock.isStrange(row) || op < 0 || op > 5) return refused(BAD);
        Thing items = stock.find(row);
        int no = items.noReadings();
        if (no == 0 && !(items.has(i) && items.has(j))) no = INDEX;
        if (no != 0) return refused(no);
        return fine(Real.holds(items.real(i), items.real(j), op) != denied ? 1 : 0);
    }

    // ---- tanks

    public int probes(int tank, int row) {
        if (!isTank(tank) || stock.isStrange(row)) return refused(BAD);
        if (!isNoneOr(row, ROW)) return refused(CAST);
        tanks[tank].useProbes(row);
        return fine(1);
    }

    public int trust(int tank, int probe, boolean on) {
        if (!isTank(tank) || !isProbe(probe)) return refused(BAD);
        tanks[tank].reasons[probe] = on ? 0 : Tank.BY_HAND;
        return fine(1);
    }

    public int reason(int tank, int probe) {
        if (!isTank(tank) || !isProbe(probe)) return refused(BAD);
        return fine(tanks[tank].reasons[probe]);
    }

    public long value(int tank) {
        if (!isTank(tank)) return refusedLong(BAD);
        Thing items = stock.find(tanks[tank].row);
        int no = items.noReadings();
        if (no != 0) return refusedLong(no);
        return fineLong(readings.trustedMiddle(items, tanks[tank].reasons));
    }

    public int wish(int tank, int what, long bits) {
        if (!isTank(tank) || what < 0 || what >= Tank.WISHES || Real.isLost(bits)) return refused(BAD);
        if (what == Tank.RATE && Real.isBelow(bits, 0)) return refused(BAD);
        tanks[tank].wishes[what] = bits;
        return fine(1);
    }

    public long setting(int tank) {
        if (!isTank(tank)) return refusedLong(BAD);
        return fineLong(tanks[tank].blower);
    }

    public int minute() {
        int fallen = 0;
        for (int i = 0; i < TANKS; i++) {
            Tank here = tanks[i];
            Thing items = stock.find(here.row);
            if (items.noReadings() == 0) {
                fallen += here.judgeAll(items, readings.trustedMiddle(items, here.reasons));
                here.remember(items);
                here.steer(readings.trustedMiddle(items, here.reasons));
            }
        }
        minutes++;
        return fine(fallen);
    }

    public int trays(int tank, int grid) {
        if (!isTank(tank) || stock.isStrange(grid)) return refused(BAD);
        if (!isNoneOr(grid, GRID)) return refused(CAST);
        if (grid != NONE && stock.find(grid).mark != INTS) return refused(CAST);
        tanks[tank].grid = grid;
        return fine(1);
    }

    public int eggs(int tank, int tray, int cell, int n, boolean picked) {
        if (!isTank(tank) || n < 1 || n > 100000) return refused(BAD);
        int no = stock.noCell(tanks[tank].grid, tray, cell);
        if (no != 0) return refused(no);
        Thing items = stock.trayOf(tanks[tank].grid, tray);
        long then = picked ? items.cells[cell] - n : items.cells[cell] + n;
        if (picked ? then < 0 : then > MOST_EGGS) return refused(LACK);
        items.cells[cell] = then;
        return fine((int) then);
    }

    public int warm(int tank, int warmth) {
        if (!isTank(tank) || warmth < 0 || warmth > 1000) return refused(BAD);
        tanks[tank].sum += warmth;
        return fine(tanks[tank].stage());
    }

    public long swim(int tank) {
        if (!isTank(tank)) return refusedLong(BAD);
        Tank here = tanks[tank];
        if (here.grid == NONE) return refusedLong(NULL);
        if (here.stage() < 3) return refusedLong(LACK);
        long swum = stock.emptyTrays(here.grid);
        here.number += swum;
        here.sum = 0;
        return fineLong(swum);
    }

    public long died(int tank, int n, int cause) {
        if (!isTank(tank) || !isHerd(n) || cause < 0 || cause >= CAUSES) return refusedLong(BAD);
        Tank here = tanks[tank];
        if (here.number < n) return refusedLong(LACK);
        here.number -= n;
        here.dead[cause] += n;
        return fineLong(here.number);
    }

    public int treat(int tank, int days) {
        if (!isTank(tank) || days < 0 || days > 1000) return refused(BAD);
        tanks[tank].waits = Math.max(tanks[tank].waits, today + days);
        return fine(tanks[tank].waits);
    }

    public long sell(int tank, int n) {
        if (!isTank(tank) || !isHerd(n)) return refusedLong(BAD);
        Tank here = tanks[tank];
        if (here.number < n || today <= here.waits) return refusedLong(LACK);
        here.number -= n;
        return fineLong(here.number);
    }

    public long shift(int tank, int to, int n) {
        if (!isTank(tank) || !isTank(to) || tank == to || !isHerd(n)) return refusedLong(BAD);
        Tank here = tanks[tank];
        Tank there = tanks[to];
        if (here.number < n) return refusedLong(LACK);
        here.number -= n;
        there.number += n;
        there.waits = Math.max(there.waits, here.waits);
        return fineLong(there.number);
    }

    public int day(int n) {
        if (n < 0 || n > 1000) return refused(BAD);
        if (today + n > 1000000) return refused(FULL);
        today += n;
        return fine(today);
    }

    public long tank(int tank, int what) {
        if (!isTank(tank) || what < 0 || what > 10) return refusedLong(BAD);
        Tank asked = tanks[tank];
        switch (what) {
            case 0: return fineLong(asked.number);
            case 1: return fineLong(asked.sum);
            case 2: return fineLong(asked.stage());
            case 3: return fineLong(asked.waits);
            case 8: return fineLong(asked.held);
            case 9: return fineLong(asked.row);
            case 10: return fineLong(asked.grid);
            default: return fineLong(asked.dead[what - 4]);
        }
    }

    // ---- kin

    public long kin(int a, int b, boolean power) {
        if (stock.isStrange(a) || stock.isStrange(b)) return refusedLong(BAD);
        int no = stock.find(a).misfit(FISH);
        if (no == 0) no = stock.find(b).misfit(FISH);
        if (no != 0) return refusedLong(no);
        long parts = kinship.between(stock, a, b);
        if (parts == Kinship.TOO_FINE) return refusedLong(LACK);
        return fineLong(power ? Kinship.powerBelow(parts) : Kinship.upperNumber(parts));
    }

    // ---- acts

    public int step(int plan, int sort, int a, int b, int c, long v) {
        if (!isPlan(plan) || sort < 0 || sort > Plan.ANSWER) return refused(BAD);
        if (!fitsStep(plan, sort, a, c)) return refused(BAD);
        if (sort == Plan.RAISE && (b < 0 || b >= NEXT)) return refused(BAD);
        if (plans[plan].size >= Plan.MOST) return refused(FULL);
        return fine(plans[plan].add(sort, a, b, c, v));
    }

    public int wipe(int plan) {
        if (!isPlan(plan)) return refused(BAD);
        int had = plans[plan].size;
        plans[plan].size = 0;
        return fine(had);
    }

    public int act(int plan) {
        if (!isPlan(plan)) return refused(BAD);
        if (!areBlocksWhole(plan)) return refused(LACK);
        int way = keeper.work(plan);
        if (way == Keeper.FAILED) return refused(keeper.failure);
        return fine(way == Keeper.ANSWERED ? 2 : 1);
    }

    public long answer() {
        return fineLong(keeper.lastAnswer);
    }

    public int acted(int what) {
        switch (what) {
            case 0: return keeper.steps;
            case 1: return keeper.failure;
            case 2: return keeper.cause;
            case 3: return keeper.catches;
            case 4: return keeper.lasts;
            case 5: return keeper.unmet ? 1 : 0;
            default: return BAD;
        }
    }

    public int trace(int i) {
        return keeper.marks.latest(i);
    }

    // ---- the desk

    public int failed() {
        return fault;
    }

    public int count(int what) {
        switch (what) {
            case 0: return stock.made;
            case 1: return today;
            case 2: return minutes;
            case 3: case 4: case 5: case 6: return plans[what - 3].size;
            default: return BAD;
        }
    }

    // ---- what the calls share

    private int fine(int answer) {
        fault = 0;
        return answer;
    }

    private long fineLong(long answer) {
        fault = 0;
        return answer;
    }

    /** BAD, FULL and LACK are told as they are, a FAILURE (above 0) as -10 less it. */
    private int refused(int why) {
        fault = why;
        return why < 0 ? why : -10 - why;
    }

    private long refusedLong(int why) {
        fault = why;
        return 0;
    }

    private static boolean isLane(int lane) {
        return lane >= TRUTHS && lane <= DOUBLES;
    }

    private static boolean isKind(int kind) {
        return kind >= 0 && kind <= 7;
    }

    private static boolean isTank(int tank) {
        return tank >= 0 && tank < TANKS;
    }

    private static boolean isProbe(int probe) {
        return probe >= 0 && probe < MOST_ITEMS;
    }

    private static boolean isHerd(int n) {
        return n >= 1 && n <= 1000000;
    }

    private static boolean isPlan(int plan) {
        return plan >= 0 && plan < PLANS;
    }

    private boolean isNoneOr(int number, int sort) {
        return number == NONE || stock.find(number).sort == sort;
    }

    private int linkAt(int number, int sort, int i) {
        if (stock.isStrange(number)) return refused(BAD);
        Thing places = stock.find(number);
        int no = places.noPlace(sort, i);
        return no != 0 ? refused(no) : fine(places.link(i));
    }

    private boolean fitsStep(int plan, int sort, int a, int c) {
        switch (sort) {
            case Plan.PUT: case Plan.RAISE: case Plan.TAKE: return !stock.isStrange(a);
            case Plan.GO: return !stock.isStrange(a) && !stock.isStrange(c);
            case Plan.EGGS: case Plan.HOLD: return isTank(a);
            case Plan.FAIL: return (a >= NULL && a <= ZERO) || isOwnFailure(a);
            case Plan.CATCH: return a == -1 || (a >= NULL && a <= STATE) || isOwnFailure(a);
            case Plan.RUN: return a >= 0 && a < plan;
            default: return true;
        }
    }

    private static boolean isOwnFailure(int failure) {
        return failure >= 20 && failure <= 29;
    }

    /** Whether the BLOCKS of a PLAN, and of all that it RUNS, are as told. */
    private boolean areBlocksWhole(int plan) {
        int wanted = 1 << plan;
        // A PLAN RUNS lesser ones alone, so one way down meets all of them.
        for (int i = plan; i >= 0; i--) {
            if ((wanted >> i & 1) == 1) {
                if (!plans[i].isWhole()) return false;
                wanted |= plans[i].runs();
            }
        }
        return true;
    }

    // ---- things, and the place where they are kept

    /**
     * A THING of any SORT, in one shape, so that copies, matches and the undoing of acts are the same for all. Its cells are
     * BITS of ITEMS and fields, or numbers of THINGS (of TRAYS, FISH in MESHES, what a CARD is BOUND to, parents).
     */
    private static final class Thing {
        final int sort;
        /** The LANE of ROWS and GRIDS, the KIND of NETS and FISH, -1 of CARDS. */
        final int mark;
        final long[] cells;
        boolean taken;

        Thing(int sort, int mark, int size, long filling) {
            this.sort = sort;
            this.mark = mark;
            this.cells = new long[Math.max(size, 0)];
            Arrays.fill(this.cells, filling);
        }

        /** The FAILURE of its use as one of a SORT, or 0. */
        int misfit(int wanted) {
            if (sort == NOTHING) return NULL;
            return sort == wanted ? 0 : CAST;
        }

        int noPlace(int wanted, int i) {
            int no = misfit(wanted);
            return no == 0 && !has(i) ? INDEX : no;
        }

        int noReadings() {
            int no = misfit(ROW);
            return no == 0 && mark != FLOATS && mark != DOUBLES ? CAST : no;
        }

        boolean has(int i) {
            return i >= 0 && i < cells.length;
        }

        boolean hasSpan(int from, int n) {
            // Taken away, not added: the sum of two ints could wrap.
            return from >= 0 && n >= 0 && n <= cells.length - from;
        }

        int link(int i) {
            return has(i) ? (int) cells[i] : NONE;
        }

        /** BITS of a double for an ITEM of floats or doubles. */
        long real(int i) {
            if (!has(i)) return Real.LOST;
            return mark == FLOATS ? Real.widened(cells[i]) : cells[i];
        }

        /** What an ITEM of a LANE becomes by BITS. */
        static long fit(int lane, long bits) {
            switch (lane) {
                case TRUTHS: return bits != 0 ? 1 : 0;
                case BYTES: return (byte) bits;
                case SHORTS: return (short) bits;
                case CHARS: return (char) bits;
                case INTS: return (int) bits;
                case LONGS: return bits;
                case FLOATS: return Real.isLostFloat((int) bits) ? Real.LOST_FLOAT : (int) bits;
                default: return Real.isLost(bits) ? Real.LOST : bits;
            }
        }

        /** An ITEM of a LANE but truths, RAISED. */
        static long raised(int lane, long bits, long v) {
            switch (lane) {
                case FLOATS: return Real.narrowed(Real.plus(Real.widened(bits), Real.ofLong(v)));
                case DOUBLES: return Real.plus(bits, Real.ofLong(v));
                default: return fit(lane, bits + v);
            }
        }

        /** How many TRAYS of a GRID are not pulled out. */
        int standing() {
            int many = 0;
            for (int i = 0; i < cells.length; i++) {
                if (cells[i] != NONE) many++;
            }
            return many;
        }

        Thing twin() {
            Thing made = new Thing(sort, mark, cells.length, 0);
            System.arraycopy(cells, 0, made.cells, 0, cells.length);
            return made;
        }

        boolean isShapedLike(Thing other) {
            return sort == other.sort && mark == other.mark && cells.length == other.cells.length;
        }

        boolean hasCellsOf(Thing other) {
            for (int i = 0; i < cells.length; i++) {
                if (!other.has(i) || cells[i] != other.cells[i]) return false;
            }
            return true;
        }
    }

    /** All THINGS by number. */
    private static final class Stock {
        private final Thing[] things = new Thing[MOST_THINGS];
        /** Stands for NONE, so that no reference is ever null. */
        private final Thing nothing = new Thing(NOTHING, NONE, 0, 0);
        private final int[] metIn = new int[MOST_THINGS];
        private int walks;
        int made;

        Stock() {
            for (int i = 0; i < MOST_THINGS; i++) things[i] = nothing;
        }

        boolean isStrange(int number) {
            return number < NONE || number >= made;
        }

        boolean hasRoom(int n) {
            return n <= MOST_THINGS - made;
        }

        Thing find(int number) {
            return number >= 0 && number < made && number < MOST_THINGS ? things[number] : nothing;
        }

        int add(Thing thing) {
            if (made >= MOST_THINGS) return FULL;
            things[made] = thing;
            made++;
            return made - 1;
        }

        Thing trayOf(int grid, int i) {
            return find(find(grid).link(i));
        }

        int noCell(int grid, int i, int j) {
            int no = find(grid).noPlace(GRID, i);
            return no != 0 ? no : trayOf(grid, i).noPlace(ROW, j);
        }

        void twinTrays(Thing grid) {
            for (int i = 0; i < grid.cells.length; i++) {
                if (grid.cells[i] != NONE) grid.cells[i] = add(find(grid.link(i)).twin());
            }
        }

        boolean alike(int a, int b) {
            Thing one = find(a);
            Thing other = find(b);
            if (a == b) return true;
            if (one.sort == FISH || !one.isShapedLike(other)) return false;
            return one.sort == GRID ? haveTraysAlike(one, other) : one.hasCellsOf(other);
        }

        private boolean haveTraysAlike(Thing one, Thing other) {
            for (int i = 0; i < one.cells.length; i++) {
                Thing here = find(one.link(i));
                Thing there = find(other.link(i));
                if (!here.isShapedLike(there) || !here.hasCellsOf(there)) return false;
            }
            return true;
        }

        /** How many CARDS stand along NEXT; -100 less them, if one comes round. */
        int walk(int card) {
            walks++;
            int met = 0;
            int next = card;
            while (met < MOST_THINGS && next >= 0 && next < MOST_THINGS && metIn[next] != walks) {
                metIn[next] = walks;
                met++;
                next = find(next).link(NEXT);
            }
            return next == NONE ? met : -100 - met;
        }

        /** The sum of all EGGS in a GRID, that has none then. All are counted first, as a TRAY may stand in two places. */
        long emptyTrays(int grid) {
            Thing places = find(grid);
            long sum = 0;
            for (int i = 0; i < places.cells.length; i++) sum += eggsIn(trayOf(grid, i));
            for (int i = 0; i < places.cells.length; i++) Arrays.fill(trayOf(grid, i).cells, 0);
            return sum;
        }

        private static long eggsIn(Thing tray) {
            long sum = 0;
            for (int i = 0; i < tray.cells.length; i++) sum += Math.max(tray.cells[i], 0);
            return sum;
        }
    }

    // ---- numbers

    /**
     * Doubles as their BITS. The machine's own doubles come in for finite sums, products and quotients alone: what would be no
     * number is told apart ahead of them.
     */
    private static final class Real {
        static final long LOST = 0x7ff8000000000000L, ENDLESS = 0x7ff0000000000000L, SIGN = 0x8000000000000000L;
        static final long ONE = 0x3ff0000000000000L, TWO = 0x4000000000000000L;
        static final long TWENTY = 0x4034000000000000L, HUNDRED = 0x4059000000000000L;
        static final long HIDDEN = 1L << 52;
        static final int LOST_FLOAT = 0x7fc00000, ENDLESS_FLOAT = 0x7f800000, HIDDEN_FLOAT = 1 << 23;
        /** Shifts that reach every power of 2 down to -1074, each a factor that is a double itself. */
        private static final int[] SHIFTS = {512, 512, 256, 128, 64, 32, 16, 8, 4, 2, 1};

        static boolean isLost(long bits) {
            return (bits & ~SIGN) > ENDLESS;
        }

        static boolean isLostFloat(int bits) {
            return (bits & 0x7fffffff) > ENDLESS_FLOAT;
        }

        private static boolean isEndless(long bits) {
            return (bits & ~SIGN) == ENDLESS;
        }

        private static boolean isZero(long bits) {
            return (bits & ~SIGN) == 0;
        }

        /** A long that stands to others as the number does; both zeros are alike. */
        private static long order(long bits) {
            return bits < 0 ? SIGN - bits : bits;
        }

        static boolean isBelow(long a, long b) {
            return !isLost(a) && !isLost(b) && order(a) < order(b);
        }

        static boolean isAlike(long a, long b) {
            return !isLost(a) && !isLost(b) && order(a) == order(b);
        }

        static boolean holds(long a, long b, int op) {
            switch (op) {
                case 0: return isBelow(a, b);
                case 1: return isBelow(a, b) || isAlike(a, b);
                case 2: return isBelow(b, a);
                case 3: return isBelow(b, a) || isAlike(a, b);
                case 4: return isAlike(a, b);
                default: return !isAlike(a, b);
            }
        }

        static long plus(long a, long b) {
            if (isLost(a) || isLost(b)) return LOST;
            if (isEndless(a)) return isEndless(b) && a != b ? LOST : a;
            if (isEndless(b)) return b;
            double sum = number(a) + number(b);
            // A sum is 0 only if it is so exactly: below 0 then if both zeros are.
            return sum == 0.0 ? a & b & SIGN : ofNumber(sum);
        }

        static long minus(long a, long b) {
            return plus(a, b ^ SIGN);
        }

        static long times(long a, long b) {
            if (isLost(a) || isLost(b)) return LOST;
            long sign = (a ^ b) & SIGN;
            if (isEndless(a) || isEndless(b)) return isZero(a) || isZero(b) ? LOST : sign | ENDLESS;
            return sign | ofNumber(number(a & ~SIGN) * number(b & ~SIGN));
        }

        static long over(long a, int n) {
            if (isLost(a) || n <= 0) return LOST;
            if (isEndless(a)) return a;
            return (a & SIGN) | ofNumber(number(a & ~SIGN) / (double) n);
        }

        static long ofLong(long v) {
            return ofNumber((double) v);
        }

        /** BITS of a float as BITS of a double. */
        static long widened(long bits) {
            long sign = bits < 0 ? SIGN : 0;
            int power = (int) (bits >> 23) & 0xff;
            long low = bits & (HIDDEN_FLOAT - 1);
            if (power == 0xff) return low != 0 ? LOST : sign | ENDLESS;
            if (power == 0 && low == 0) return sign;
            if (power == 0) {
                // The least floats have no hidden bit, but as doubles they have.
                int lift = Long.numberOfLeadingZeros(low) - 40;
                low = (low << lift) & (HIDDEN_FLOAT - 1);
                power = 1 - lift;
            }
            return sign | (long) (power + 896) << 52 | low << 29;
        }

        /** BITS of the float that is nearest to a double, of two the even one. */
        static long narrowed(long bits) {
            if (isLost(bits)) return LOST_FLOAT;
            int sign = bits < 0 ? 1 << 31 : 0;
            int power = ((int) (bits >>> 52) & 0x7ff) - 896;
            if (power >= 0xff) return sign | ENDLESS_FLOAT;
            int shift = power >= 1 ? 29 : 30 - power;
            if (shift > 54) return sign;
            long low = bits & (HIDDEN - 1) | HIDDEN;
            long kept = low >> shift;
            long rest = low - (kept << shift);
            long half = 1L << (shift - 1);
            if (rest > half || (rest == half && (kept & 1) == 1)) kept++;
            // A carry out of the low bits raises the power, as it must.
            return sign | (int) (power >= 1 ? kept + ((long) (power - 1) << 23) : kept);
        }

        /** The number of BITS that are finite. */
        private static double number(long bits) {
            int power = (int) (bits >>> 52) & 0x7ff;
            long low = bits & (HIDDEN - 1);
            double size = power == 0
                ? (double) low * powerOfTwo(-1074)
                : (double) (low | HIDDEN) * powerOfTwo(power - 1075);
            return bits < 0 ? 0.0 - size : size;
        }

        private static double powerOfTwo(int power) {
            double factor = power < 0 ? 0.5 : 2.0;
            double made = 1.0;
            for (int left = power < 0 ? -power : power; left > 0; left >>= 1) {
                if ((left & 1) == 1) made *= factor;
                factor *= factor;
            }
            return made;
        }

        /** BITS of a number, of 0 those of 0.0. */
        private static long ofNumber(double number) {
            long sign = number < 0.0 ? SIGN : 0;
            double low = number < 0.0 ? 0.0 - number : number;
            if (low > 1.7976931348623157E308) return sign | ENDLESS;
            if (low < 2.2250738585072014E-308) return sign | (long) (low * powerOfTwo(537) * powerOfTwo(537));
            boolean small = low < 9007199254740992.0;
            int power = 1075;
            // By exact factors to 2^52 .. 2^53, where the number is its own low bits.
            for (int i = 0; i < SHIFTS.length; i++) {
                int shift = small ? SHIFTS[i] : -SHIFTS[i];
                double moved = low * powerOfTwo(shift);
                if (small ? moved < 9007199254740992.0 : moved >= 4503599627370496.0) {
                    low = moved;
                    power -= shift;
                }
            }
            return sign | (long) power << 52 | ((long) low & (HIDDEN - 1));
        }
    }

    /** The numbers of a ROW that are not LOST, in one array that is used again. */
    private static final class Readings {
        private final long[] numbers = new long[MOST_ITEMS];
        private int many;

        /** Whether none of them was LOST. */
        boolean gather(Thing row) {
            many = 0;
            for (int i = 0; i < row.cells.length; i++) gatherOne(row.real(i));
            return many == row.cells.length;
        }

        long trustedMiddle(Thing row, int[] reasons) {
            many = 0;
            for (int i = 0; i < row.cells.length && i < reasons.length; i++) {
                if (reasons[i] == 0) gatherOne(row.real(i));
            }
            return middle();
        }

        private void gatherOne(long number) {
            if (Real.isLost(number) || many >= numbers.length) return;
            numbers[many] = number;
            many++;
        }

        long work(int what) {
            switch (what) {
                case 0: return least();
                case 1: return greatest();
                case 2: return mean();
                case 3: return middle();
                default: return fall();
            }
        }

        private long least() {
            if (many == 0) return Real.LOST;
            long found = numbers[0];
            for (int i = 1; i < many; i++) {
                if (Real.isBelow(numbers[i], found)) found = numbers[i];
            }
            return found;
        }

        private long greatest() {
            if (many == 0) return Real.LOST;
            long found = numbers[0];
            for (int i = 1; i < many; i++) {
                if (Real.isBelow(found, numbers[i])) found = numbers[i];
            }
            return found;
        }

        private long mean() {
            if (many == 0) return Real.LOST;
            long sum = 0;
            for (int i = 0; i < many; i++) sum = Real.plus(sum, numbers[i]);
            return Real.over(sum, many);
        }

        private long middle() {
            if (many == 0) return Real.LOST;
            for (int i = 1; i < many; i++) sink(i);
            return numbers[(many - 1) / 2];
        }

        /** A number goes ahead of those above it, but not of its likes: they stay as they come. */
        private void sink(int from) {
            long number = numbers[from];
            int i = from;
            while (i > 0 && Real.isBelow(number, numbers[i - 1])) {
                numbers[i] = numbers[i - 1];
                i--;
            }
            numbers[i] = number;
        }

        private long fall() {
            if (many < 2) return Real.LOST;
            return Real.over(Real.minus(numbers[0], numbers[many - 1]), many - 1);
        }
    }

    // ---- fish

    private static final class Kinds {
        static final int SHARE = 0, RATE = 1, APPETITE = 2, EGGS = 3, PRICE = 4;
        private static final int TROUT = 1, RAINBOW = 2, CHAR = 3, SPLAKE = 4, EATS = 5, BEARS = 6, PRICED = 7;
        /** For KINDS 0 to 4 the KINDS and FACES that they are of, as bits. */
        private static final int[] ARE = {
            0,
            1 | 1 << TROUT | 1 << EATS | 1 << PRICED,
            1 | 1 << TROUT | 1 << RAINBOW | 1 << EATS | 1 << BEARS | 1 << PRICED,
            1 | 1 << CHAR | 1 << EATS,
            1 | 1 << CHAR | 1 << SPLAKE | 1 << EATS | 1 << BEARS | 1 << PRICED
        };

        static boolean isOf(int kind, int wanted) {
            return kind >= 0 && kind < ARE.length && (ARE[kind] >> wanted & 1) == 1;
        }

        static boolean hasMember(int kind, int what) {
            switch (what) {
                case SHARE: return true;
                case RATE: return isOf(kind, TROUT) || isOf(kind, SPLAKE);
                case APPETITE: return isOf(kind, EATS);
                case EGGS: return isOf(kind, BEARS);
                default: return isOf(kind, PRICED);
            }
        }

        static long member(int kind, int what, long grams, int n) {
            switch (what) {
                case SHARE: return share(kind);
                case RATE: return rate(kind, n);
                case APPETITE: return appetite(kind, n);
                case EGGS: return n == 0 ? 0 : grams / n;
                default: return price(kind, grams, n);
            }
        }

        private static long share(int kind) {
            switch (kind) {
                case TROUT: return 3;
                case RAINBOW: return 4;
                case CHAR: return 5;
                default: return 5 + 1;
            }
        }

        private static long rate(int kind, long n) {
            switch (kind) {
                case RAINBOW: return 2 * n;
                case SPLAKE: return n + share(kind);
                default: return n;
            }
        }

        private static long appetite(int kind, long n) {
            long lent = share(kind) * n / 10;
            return kind == SPLAKE ? lent - 1 : lent;
        }

        private static long price(int kind, long grams, long n) {
            long lent = grams * rate(kind, n);
            return kind == RAINBOW ? lent + 100 : lent;
        }
    }

    /**
     * KIN of all pairs of FISH, each in parts of 2 to the power -60: a KIN that has no whole number of them would need a higher
     * power. Parents never change, so a KIN that was found stays, and is found by number, as parents come ahead of the young.
     */
    private static final class Kinship {
        static final long TOO_FINE = -1, WHOLE = 1L << 60;
        private final long[][] parts = new long[MOST_THINGS][];
        private int found;

        long between(Stock stock, int a, int b) {
            int last = Math.min(Math.max(a, b), MOST_THINGS - 1);
            for (; found <= last; found++) {
                Thing fish = stock.find(found);
                if (fish.sort == FISH) findAll(stock, found, fish.link(MOTHER), fish.link(FATHER));
            }
            return known(a, b);
        }

        private void findAll(Stock stock, int young, int mother, int father) {
            long[] row = new long[young + 1];
            for (int i = 0; i < young; i++) {
                if (stock.find(i).sort == FISH) row[i] = half(known(i, mother), known(i, father));
            }
            row[young] = half(WHOLE, known(mother, father));
            parts[young] = row;
        }

        private long known(int a, int b) {
            int high = Math.max(a, b);
            int low = Math.min(a, b);
            if (low < 0 || high >= MOST_THINGS) return 0;
            long[] row = parts[high];
            return row == null || low >= row.length ? 0 : row[low];
        }

        private static long half(long one, long other) {
            if (one == TOO_FINE || other == TOO_FINE) return TOO_FINE;
            long sum = one + other;
            return (sum & 1) == 1 ? TOO_FINE : sum >> 1;
        }

        static long upperNumber(long parts) {
            return parts == 0 ? 0 : parts >> Long.numberOfTrailingZeros(parts);
        }

        static long powerBelow(long parts) {
            return parts == 0 ? 0 : 60 - Long.numberOfTrailingZeros(parts);
        }
    }

    // ---- tanks

    private static final class Tank {
        static final int WISH = 0, GAIN = 1, RATE = 2, SAFE = 3, WISHES = 4;
        static final int FOULED = 1, STUCK = 2, OUT = 3, BY_HAND = 4;
        int row = NONE;
        int grid = NONE;
        final int[] reasons = new int[MOST_ITEMS];
        /** The ITEMS at the MINUTE before, and at the one before it. */
        private final long[] before = new long[MOST_ITEMS];
        private final long[] earlier = new long[MOST_ITEMS];
        private int minutesBefore;
        private long wentBy = Real.LOST;
        final long[] wishes = new long[WISHES];
        long blower;
        long sum;
        long number;
        final long[] dead = new long[CAUSES];
        int waits = -1;
        int held;

        void useProbes(int probes) {
            row = probes;
            minutesBefore = 0;
            Arrays.fill(reasons, 0);
        }

        int stage() {
            if (sum < 250) return 0;
            if (sum < 500) return 1;
            return sum < 700 ? 2 : 3;
        }

        /** How many PROBES lose trust in a MINUTE, with the VALUE ahead of it. */
        int judgeAll(Thing items, long middle) {
            int fallen = 0;
            for (int i = 0; i < items.cells.length && i < MOST_ITEMS; i++) {
                long item = items.real(i);
                if (reasons[i] == 0 && !Real.isLost(item)) {
                    reasons[i] = judged(item, i, middle);
                    if (reasons[i] != 0) fallen++;
                }
            }
            return fallen;
        }

        private int judged(long item, int i, long middle) {
            if (!Real.isBelow(item, Real.TWENTY)) return OUT;
            if (minutesBefore >= 2 && item == before[i] && item == earlier[i]) return STUCK;
            return minutesBefore >= 1 && isFouled(item, before[i], middle) ? FOULED : 0;
        }

        private boolean isFouled(long item, long was, long middle) {
            if (!Real.isBelow(item, was) || Real.isLost(wentBy) || Real.isLost(middle)) return false;
            boolean fell = Real.isBelow(Real.TWO, Real.minus(was, item));
            return fell && !Real.isBelow(Real.ONE, Real.minus(wentBy, middle));
        }

        void remember(Thing items) {
            for (int i = 0; i < items.cells.length && i < MOST_ITEMS; i++) {
                earlier[i] = before[i];
                before[i] = items.real(i);
            }
            minutesBefore++;
        }

        /** The blower is set by the VALUE behind the judging. */
        void steer(long middle) {
            wentBy = middle;
            long rate = wishes[RATE];
            long by = Real.times(Real.minus(wishes[WISH], middle), wishes[GAIN]);
            long next = Real.plus(blower, kept(by, Real.minus(0, rate), rate));
            // What is no number goes through all of these, a LOST VALUE too.
            blower = Real.isLost(next) ? wishes[SAFE] : kept(next, 0, Real.HUNDRED);
        }

        private static long kept(long number, long least, long most) {
            if (Real.isBelow(most, number)) return most;
            return Real.isBelow(number, least) ? least : number;
        }
    }

    // ---- acts

    private static final class Plan {
        static final int PUT = 0, RAISE = 1, GO = 2, EGGS = 3, TAKE = 4, HOLD = 5, FAIL = 6;
        static final int BEGIN = 7, CATCH = 8, LAST = 9, END = 10, RUN = 11, ANSWER = 12;
        static final int MOST = 24;
        final int[] sorts = new int[MOST];
        final int[] a = new int[MOST];
        final int[] b = new int[MOST];
        final int[] c = new int[MOST];
        final long[] v = new long[MOST];
        int size;

        int add(int sort, int first, int second, int third, long number) {
            if (size >= MOST) return FULL;
            sorts[size] = sort;
            a[size] = first;
            b[size] = second;
            c[size] = third;
            v[size] = number;
            size++;
            return size - 1;
        }

        boolean is(int i, int sort) {
            return i >= 0 && i < size && sorts[i] == sort;
        }

        private boolean isMark(int i) {
            return is(i, CATCH) || is(i, LAST) || is(i, END);
        }

        boolean isWhole() {
            int depth = 0;
            int lastsMet = 0;
            for (int i = 0; i < size; i++) {
                if (is(i, BEGIN)) {
                    depth++;
                    lastsMet &= ~(1 << depth);
                } else if (isMark(i)) {
                    boolean afterLast = (lastsMet >> depth & 1) == 1;
                    if (depth == 0 || (afterLast && !is(i, END))) return false;
                    if (is(i, LAST)) lastsMet |= 1 << depth;
                    if (is(i, END)) depth--;
                }
            }
            return depth == 0;
        }

        /** The PLANS that it RUNS, as bits. */
        int runs() {
            int found = 0;
            for (int i = 0; i < size; i++) {
                if (is(i, RUN)) found |= 1 << a[i];
            }
            return found;
        }

        /** Where the STEPS from a place on end: the CATCH, LAST or END of their own BLOCK. */
        int markFrom(int from) {
            int depth = 0;
            for (int i = from; i < size; i++) {
                if (depth == 0 && isMark(i)) return i;
                if (is(i, BEGIN)) depth++;
                if (is(i, END)) depth--;
            }
            return size;
        }

        /** The place behind a STEP, or behind the BLOCK that begins there. */
        int behind(int i) {
            if (!is(i, BEGIN)) return i + 1;
            int depth = 1;
            int end = i;
            while (depth > 0 && end < size - 1) {
                end++;
                if (is(end, BEGIN)) depth++;
                if (is(end, END)) depth--;
            }
            return end + 1;
        }

        boolean takes(int i, int failure) {
            return a[i] == -1 || a[i] == failure;
        }
    }

    /** THE TRACE: the latest 60 marks. */
    private static final class Marks {
        private static final int KEPT = 60;
        private final int[] ring = new int[KEPT];
        private int many;

        void add(int mark) {
            ring[many % KEPT] = mark;
            many++;
        }

        int latest(int i) {
            if (i < 0 || i >= KEPT || i >= many) return 0;
            return ring[(many - 1 - i) % KEPT];
        }
    }

    /** What an ACT changed, so that it can be undone. */
    private static final class Journal {
        /** A STEP changes two cells at most. */
        private static final int MOST = 2 * Keeper.MOST_STEPS;
        private final int[] things = new int[MOST];
        private final int[] places = new int[MOST];
        private final long[] were = new long[MOST];
        private int many;

        void clear() {
            many = 0;
        }

        void change(Stock stock, int thing, int i, long becomes) {
            Thing changed = stock.find(thing);
            if (many >= MOST || !changed.has(i)) return;
            things[many] = thing;
            places[many] = i;
            were[many] = changed.cells[i];
            many++;
            changed.cells[i] = becomes;
        }

        void undo(Stock stock) {
            for (int k = many - 1; k >= 0; k--) {
                Thing changed = stock.find(things[k]);
                if (changed.has(places[k])) changed.cells[places[k]] = were[k];
            }
            many = 0;
        }
    }

    /** Does ACTS. It has the house's THINGS, TANKS and PLANS; what a FAILURE was is told by its fields, as nothing is thrown. */
    private static final class Keeper {
        static final int MOST_STEPS = 300;
        private static final int SPENDING_FAILURE = 13;
        /** PLANS RUN lesser ones alone, and have 12 BLOCKS at most: this is never reached. */
        private static final int DEEPEST = 60;
        /** The ways out of STEPS. */
        static final int ON = 0, ANSWERED = 1, FAILED = 2;
        private static final int TRACE_TAKEN = 100, TRACE_PUT_BACK = 300, TRACE_HELD = 500, TRACE_LET_GO = 510;
        private static final int TRACE_LAST = 520, TRACE_CATCH = 530;

        final Stock stock = new Stock();
        final Tank[] tanks = new Tank[TANKS];
        final Plan[] plans = new Plan[PLANS];
        final Marks marks = new Marks();
        private final Journal journal = new Journal();
        private final int[] held = new int[MOST_STEPS];
        private int holds;
        private final int[] taken = new int[MOST_THINGS];
        private int takes;
        private int failures;
        private long answered;
        long lastAnswer;
        int steps;
        int failure;
        int cause;
        int catches;
        int lasts;
        /** Whether a FAILURE met no CATCH that took it. */
        boolean unmet;

        Keeper() {
            for (int i = 0; i < TANKS; i++) tanks[i] = new Tank();
            for (int i = 0; i < PLANS; i++) plans[i] = new Plan();
        }

        /** An ACT: the way on which it ended. */
        int work(int plan) {
            forgetLatest();
            int way = runPlan(plan, 0);
            if (way == FAILED) unmet = true;
            else setFailure(0, 0);
            if (way == ANSWERED) lastAnswer = answered;
            if (unmet) journal.undo(stock);
            return way;
        }

        private void forgetLatest() {
            journal.clear();
            holds = 0;
            takes = 0;
            failures = 0;
            steps = 0;
            catches = 0;
            lasts = 0;
            unmet = false;
            setFailure(0, 0);
        }

        private void setFailure(int which, int whichCause) {
            failure = which;
            cause = whichCause;
        }

        private int runPlan(int number, int depth) {
            if (number < 0 || number >= PLANS || depth > DEEPEST) return spend();
            int takesAhead = takes;
            int way = doSteps(plans[number], 0, plans[number].size, depth);
            putBack(takesAhead);
            return way;
        }

        /** The STEPS of a BLOCK, a CATCH, a LAST or a PLAN, with the TANKS that are HELD in them. */
        private int doSteps(Plan plan, int from, int to, int depth) {
            int holdsAhead = holds;
            int way = depth > DEEPEST ? spend() : ON;
            int i = from;
            for (int n = 0; n < Plan.MOST && i < to && way == ON; n++) {
                way = doStep(plan, i, depth);
                i = plan.behind(i);
            }
            letGo(holdsAhead);
            return way;
        }

        private int doStep(Plan plan, int i, int depth) {
            if (steps >= MOST_STEPS) return spend();
            steps++;
            int a = plan.a[i];
            int b = plan.b[i];
            int c = plan.c[i];
            long v = plan.v[i];
            switch (plan.sorts[i]) {
                case Plan.PUT: return wayOf(doPut(a, b, v));
                case Plan.RAISE: return wayOf(doRaise(a, b, v));
                case Plan.GO: return wayOf(doGo(a, b, c, v));
                case Plan.EGGS: return wayOf(doEggs(a, b, c, v));
                case Plan.TAKE: return wayOf(doTake(a));
                case Plan.HOLD: return wayOf(doHold(a));
                case Plan.FAIL: return wayOf(a);
                case Plan.BEGIN: return doBlock(plan, i, depth + 1);
                // The ANSWER of a PLAN that is RUN ends that one alone.
                case Plan.RUN: return runPlan(a, depth + 1) == FAILED ? FAILED : ON;
                default:
                    answered = v;
                    return ANSWERED;
            }
        }

        /** The way behind a STEP with a FAILURE, or with none (0). */
        private int wayOf(int no) {
            if (no == 0) return ON;
            failures++;
            if (failures >= SPENDING_FAILURE) return spend();
            setFailure(no, 0);
            return FAILED;
        }

        private int spend() {
            setFailure(SPENT, 0);
            return FAILED;
        }

        private boolean isSpent(int way) {
            return way == FAILED && failure == SPENT;
        }

        private int doBlock(Plan plan, int begin, int depth) {
            int mark = plan.markFrom(begin + 1);
            int way = doSteps(plan, begin + 1, mark, depth);
            boolean open = way == FAILED && !isSpent(way);
            for (int n = 0; n < Plan.MOST && plan.is(mark, Plan.CATCH); n++) {
                int next = plan.markFrom(mark + 1);
                if (open && plan.takes(mark, failure)) {
                    open = false;
                    catches++;
                    marks.add(TRACE_CATCH + failure);
                    way = doSteps(plan, mark + 1, next, depth);
                }
                mark = next;
            }
            return plan.is(mark, Plan.LAST) && !isSpent(way) ? doLast(plan, mark, way, depth) : way;
        }

        /** LAST, ahead of which a BLOCK was left on a way: the way that goes on. */
        private int doLast(Plan plan, int mark, int way, int depth) {
            int failureAhead = failure;
            int causeAhead = cause;
            long answeredAhead = answered;
            lasts++;
            marks.add(TRACE_LAST);
            int own = doSteps(plan, mark + 1, plan.markFrom(mark + 1), depth);
            if (own == ON) {
                setFailure(failureAhead, causeAhead);
                answered = answeredAhead;
                return way;
            }
            if (way == FAILED) {
                unmet = true;
                if (own == FAILED) cause = failureAhead;
            }
            return own;
        }

        private void letGo(int down) {
            while (holds > down && holds > 0) {
                holds--;
                tanks[held[holds]].held--;
                marks.add(TRACE_LET_GO + held[holds]);
            }
        }

        private void putBack(int down) {
            while (takes > down && takes > 0) {
                takes--;
                stock.find(taken[takes]).taken = false;
                marks.add(TRACE_PUT_BACK + taken[takes]);
            }
        }

        private int doPut(int row, int i, long bits) {
            Thing items = stock.find(row);
            int no = items.noPlace(ROW, i);
            if (no == 0) journal.change(stock, row, i, Thing.fit(items.mark, bits));
            return no;
        }

        private int doRaise(int card, int lane, long v) {
            Thing fields = stock.find(card);
            int no = fields.noPlace(CARD, lane);
            if (no == 0 && lane == TRUTHS) no = CAST;
            if (no == 0) journal.change(stock, card, lane, Thing.raised(lane, fields.cells[lane], v));
            return no;
        }

        private int doGo(int from, int i, int to, long place) {
            int no = stock.find(from).noPlace(NET, i);
            if (no != 0) return no;
            int fish = stock.find(from).link(i);
            if (fish == NONE) return NULL;
            // One beyond an int would come round to another place as an int, so all that no NET has are -1.
            int j = place < 0 || place >= MOST_PLACES ? -1 : (int) place;
            Thing goal = stock.find(to);
            no = goal.noPlace(NET, j);
            if (no != 0) return no;
            if (!Kinds.isOf(stock.find(fish).mark, goal.mark)) return STORE;
            // Its MESH is freed first, as it may be the one to which it goes.
            journal.change(stock, from, i, NONE);
            journal.change(stock, to, j, fish);
            return 0;
        }

        private int doEggs(int tank, int i, int j, long v) {
            int grid = tanks[tank].grid;
            int no = stock.noCell(grid, i, j);
            if (no != 0) return no;
            Thing items = stock.trayOf(grid, i);
            journal.change(stock, stock.find(grid).link(i), j, Thing.raised(items.mark, items.cells[j], v));
            return 0;
        }

        private int doTake(int thing) {
            if (thing == NONE) return NULL;
            Thing wanted = stock.find(thing);
            if (wanted.taken || takes >= MOST_THINGS) return STATE;
            wanted.taken = true;
            taken[takes] = thing;
            takes++;
            marks.add(TRACE_TAKEN + thing);
            return 0;
        }

        private int doHold(int tank) {
            if (holds >= MOST_STEPS) return STATE;
            tanks[tank].held++;
            held[holds] = tank;
            holds++;
            marks.add(TRACE_HELD + tank);
            return 0;
        }
    }
}
