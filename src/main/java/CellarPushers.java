import java.util.Arrays;

/** A cellar in which one man pushes barrels, one at a time, and never pulls. */
public final class CellarPushers {
    private static final int NONE = -1;
    private static final int REFUSED = -2;
    private static final int CAN_NOT_COME = -3;
    private static final int NOT_ONTO_ITS_FIELD = -4;
    private static final int BARREL_CAN_NOT_COME = -5;

    private static final int WALL = 0;
    private static final int MARK = 2;
    private static final int SLIDE = 3;
    private static final int RAMP = 4;
    private static final int GRATE = 5;

    private static final int LEAST_SIDE = 2;
    private static final int SIDE = 8;
    private static final int FIELDS = 64;
    private static final int WAYS = 4;
    private static final int NORTH = 0;
    private static final int EAST = 1;
    private static final int SOUTH = 2;
    private static final int WEST = 3;
    private static final int[] ACROSS = {0, 1, 0, -1};
    private static final int[] DOWN = {-1, 0, 1, 0};

    private static final int MOST_BARRELS = 12;
    private static final int MOST_TOLD = 400;
    private static final int ALL_AND_DONE = 1000;
    private static final int MOST_ACTS = 512;
    private static final int MOST_SEARCHED_BARRELS = 3;
    private static final int MOST_SEARCHED_FIELDS = 30;

    private final Ground ground;
    private final Scene scene;
    private final Scene trial;
    private final Timeline timeline;
    private final Walks walks;
    private final Prices prices;
    private final Pairing pairing;
    private final Search search;
    private final Ways thePlan;
    private final Ways tape;
    private int spoiltField;

    public CellarPushers(int width, int height) {
        ground = new Ground(width, height);
        scene = new Scene();
        trial = new Scene();
        timeline = new Timeline();
        walks = new Walks();
        prices = new Prices();
        pairing = new Pairing();
        search = new Search();
        thePlan = new Ways();
        tape = new Ways();
        spoiltField = NONE;
    }

    public int field(int x, int y, int kind, int way) {
        int number = ground.numberOf(x, y);
        if (number == NONE || kind < WALL || kind > GRATE) {
            return REFUSED;
        }
        boolean wayFits = kind == RAMP ? isWay(way) : way == 0;
        if (!wayFits || isInUse(number)) {
            return REFUSED;
        }
        timeline.forget();
        return ground.lay(number, kind, way);
    }

    public int line(int y, boolean missing) {
        if (y < 0 || y >= ground.height) {
            return REFUSED;
        }
        for (int x = 0; x < ground.width; x++) {
            if (isInUse(ground.numberOf(x, y))) {
                return REFUSED;
            }
        }
        timeline.forget();
        return ground.letMiss(y, missing) ? 1 : 0;
    }

    public int barrel(int x, int y, boolean on) {
        int number = ground.numberOf(x, y);
        if (number == NONE || on && !mayBeSetOn(number)) {
            return REFUSED;
        }
        timeline.forget();
        boolean was = scene.hasBarrel(number);
        scene.barrels = with(scene.barrels, number, on);
        return was ? 1 : 0;
    }

    public int man(int x, int y) {
        int number = ground.numberOf(x, y);
        if (number == NONE || !ground.isForMan(number) || scene.hasBarrel(number)) {
            return REFUSED;
        }
        timeline.forget();
        boolean was = scene.hasMan();
        scene.manAt = number;
        return was ? 1 : 0;
    }

    public int want(int x, int y, boolean is) {
        int number = ground.numberOf(x, y);
        int kindNow = ground.kindNow(number);
        if (kindNow != MARK && kindNow != GRATE) {
            return REFUSED;
        }
        timeline.forget();
        boolean was = has(ground.wanted, number);
        ground.wanted = with(ground.wanted, number, is);
        return was ? 1 : 0;
    }

    public int step(int way) {
        trial.become(scene);
        return act(trial.advance(ground, way));
    }

    public int walk(int x, int y) {
        int number = ground.numberOf(x, y);
        if (!scene.hasMan() || number == NONE) {
            return REFUSED;
        }
        return act(tryWalk(number));
    }

    public int push(int x, int y, int way) {
        return act(tryPush(x, y, way));
    }

    public int can(int x, int y, int way) {
        return tryPush(x, y, way);
    }

    public int undo() {
        return timeline.goBack(scene);
    }

    public int redo() {
        return timeline.goForth(scene);
    }

    public int kind(int x, int y) {
        int number = ground.numberOf(x, y);
        return number == NONE ? REFUSED : ground.kindNow(number);
    }

    public int on(int x, int y) {
        int number = ground.numberOf(x, y);
        if (number == NONE) {
            return REFUSED;
        }
        int isThere = scene.hasBarrel(number) ? 1 : scene.manAt == number ? 2 : 0;
        return has(ground.wanted, number) ? isThere + 4 : isThere;
    }

    public int far(int x, int y) {
        int number = ground.numberOf(x, y);
        if (!scene.hasMan() || number == NONE) {
            return REFUSED;
        }
        walks.measure(ground, scene);
        return walks.stepsTo(number);
    }

    public boolean isDone() {
        return isDoneIn(scene);
    }

    public boolean isReady() {
        int barrels = Long.bitCount(scene.barrels);
        return scene.hasMan() && barrels >= 1 && barrels == Long.bitCount(ground.wanted);
    }

    public int dead(int x, int y) {
        int number = ground.numberOf(x, y);
        if (number == NONE) {
            return REFUSED;
        }
        return prices.isDead(ground, number) ? 1 : 0;
    }

    public int held(int x, int y) {
        int number = ground.numberOf(x, y);
        if (number == NONE) {
            return REFUSED;
        }
        return has(heldBarrels(), number) ? 1 : 0;
    }

    public int spoilt() {
        if (!isReady()) {
            return REFUSED;
        }
        spoiltField = leastDeadBarrel();
        if (spoiltField != NONE) {
            return 1;
        }
        spoiltField = leastOf(heldBarrels() & ~ground.wanted);
        return spoiltField != NONE ? 2 : 0;
    }

    public int why() {
        return spoiltField;
    }

    public int low() {
        return isReady() ? pairing.leastSum(ground, prices, scene.barrels) : REFUSED;
    }

    public int price(int x, int y, int toX, int toY) {
        int from = ground.numberOf(x, y);
        int to = ground.numberOf(toX, toY);
        if (ground.kindNow(from) == WALL || ground.kindNow(to) == WALL) {
            return REFUSED;
        }
        prices.measure(ground, from);
        return prices.priceTo(to);
    }

    public int fewest() {
        if (!isReady() || Long.bitCount(scene.barrels) > MOST_SEARCHED_BARRELS) {
            return REFUSED;
        }
        if (ground.openFields() > MOST_SEARCHED_FIELDS) {
            return REFUSED;
        }
        return search.solve(ground, scene, liveFields(), thePlan);
    }

    public int steps() {
        return thePlan.size;
    }

    public int plan(int i) {
        return thePlan.wayAt(i);
    }

    public int follow() {
        trial.become(scene);
        int followed = trial.advanceBy(ground, thePlan);
        if (followed == 0 || followed < thePlan.size) {
            return REFUSED;
        }
        return act(followed);
    }

    public int tell(int way) {
        if (!isWay(way) || tape.size >= MOST_TOLD) {
            return REFUSED;
        }
        tape.append(way);
        return tape.size;
    }

    public int copy() {
        if (thePlan.size > MOST_TOLD) {
            return REFUSED;
        }
        tape.become(thePlan);
        return tape.size;
    }

    public int forge(int i, int way) {
        int was = tape.wayAt(i);
        if (was == REFUSED || !isWay(way)) {
            return REFUSED;
        }
        tape.change(i, way);
        return was;
    }

    public int hush() {
        int had = tape.size;
        tape.size = 0;
        return had;
    }

    public int check() {
        if (!scene.hasMan()) {
            return REFUSED;
        }
        trial.become(scene);
        int did = trial.advanceBy(ground, tape);
        boolean doneByAll = did == tape.size && isDoneIn(trial);
        return doneByAll ? did + ALL_AND_DONE : did;
    }

    public int count(int what) {
        switch (what) {
            case 0:
                return ground.openFields();
            case 1:
                return Long.bitCount(scene.barrels);
            case 2:
                return Long.bitCount(ground.wanted);
            case 3:
                return scene.stepsDone;
            case 4:
                return scene.pushesDone;
            case 5:
                walks.measure(ground, scene);
                return walks.reached;
            case 6:
                return timeline.now;
            case 7:
                return tape.size;
            case 8:
                return scene.manAt;
            default:
                return REFUSED;
        }
    }

    private static boolean isWay(int way) {
        return way >= 0 && way < WAYS;
    }

    private static boolean isField(int number) {
        return number >= 0 && number < FIELDS;
    }

    private static boolean has(long set, int number) {
        return isField(number) && (set >>> number & 1L) != 0L;
    }

    private static long with(long set, int number, boolean is) {
        if (!isField(number)) {
            return set;
        }
        long bit = 1L << number;
        return is ? set | bit : set & ~bit;
    }

    private static int leastOf(long set) {
        for (int number = 0; number < FIELDS; number++) {
            if (has(set, number)) {
                return number;
            }
        }
        return NONE;
    }

    private boolean isInUse(int number) {
        return scene.isTaken(number) || has(ground.wanted, number);
    }

    private boolean mayBeSetOn(int number) {
        return ground.kindNow(number) != WALL
                && scene.manAt != number
                && Long.bitCount(scene.barrels) < MOST_BARRELS;
    }

    private boolean isDoneIn(Scene some) {
        return (ground.wanted & ~some.barrels) == 0L;
    }

    /** The trial becomes what is, and an act for undo(), unless it was refused. */
    private int act(int answer) {
        if (answer >= 0) {
            timeline.record(scene, trial);
            scene.become(trial);
        }
        return answer;
    }

    private int tryWalk(int number) {
        walks.measure(ground, scene);
        int far = walks.stepsTo(number);
        if (far < 0) {
            return CAN_NOT_COME;
        }
        trial.become(scene);
        trial.manAt = number;
        trial.stepsDone += far;
        return far;
    }

    private int tryPush(int x, int y, int way) {
        int number = ground.numberOf(x, y);
        if (!scene.hasMan() || !isWay(way) || !scene.hasBarrel(number)) {
            return REFUSED;
        }
        if (tryWalk(ground.beside(number, opposite(way))) < 0) {
            return CAN_NOT_COME;
        }
        return trial.advance(ground, way);
    }

    private static int opposite(int way) {
        return way ^ 2;
    }

    private int leastDeadBarrel() {
        for (int number = 0; number < FIELDS; number++) {
            if (scene.hasBarrel(number) && prices.isDead(ground, number)) {
                return number;
            }
        }
        return NONE;
    }

    private long liveFields() {
        long live = 0L;
        for (int number = 0; number < FIELDS; number++) {
            boolean isOpen = ground.kindNow(number) != WALL;
            live = with(live, number, isOpen && !prices.isDead(ground, number));
        }
        return live;
    }

    /** All barrels are taken for held at first; those that are not held by these are left out, until none is. */
    private long heldBarrels() {
        long held = scene.barrels;
        for (int round = 0; round < FIELDS; round++) {
            long before = held;
            for (int number = 0; number < FIELDS; number++) {
                if (has(held, number) && !isHeldBy(held, number)) {
                    held = with(held, number, false);
                }
            }
            if (held == before) {
                break;
            }
        }
        return held;
    }

    private boolean isHeldBy(long held, int number) {
        if (ground.kindNow(number) == GRATE) {
            return true;
        }
        boolean northOrSouth = holds(held, number, NORTH) || holds(held, number, SOUTH);
        boolean eastOrWest = holds(held, number, EAST) || holds(held, number, WEST);
        return northOrSouth && eastOrWest;
    }

    private boolean holds(long held, int number, int way) {
        int next = ground.beside(number, way);
        return ground.kindNow(next) == WALL || has(held, next);
    }

    /** The fields, their kinds, the missing lines and which fields are wanted. */
    private static final class Ground {
        final int width;
        final int height;
        long wanted;
        private final int[] kinds;
        private final int[] rampWays;
        private final boolean[] missing;

        Ground(int width, int height) {
            this.width = Math.max(LEAST_SIDE, Math.min(SIDE, width));
            this.height = Math.max(LEAST_SIDE, Math.min(SIDE, height));
            kinds = new int[FIELDS];
            rampWays = new int[FIELDS];
            missing = new boolean[SIDE];
        }

        int numberOf(int x, int y) {
            boolean isInside = x >= 0 && x < width && y >= 0 && y < height;
            return isInside ? SIDE * y + x : NONE;
        }

        int beside(int number, int way) {
            if (!isField(number) || !isWay(way)) {
                return NONE;
            }
            return numberOf(number % SIDE + ACROSS[way], number / SIDE + DOWN[way]);
        }

        /** What is outside is WALL, too. */
        int kindNow(int number) {
            if (number < 0 || number >= FIELDS || missing[number / SIDE]) {
                return WALL;
            }
            return kinds[number];
        }

        int lay(int number, int kind, int way) {
            if (!isField(number)) {
                return WALL;
            }
            int was = kinds[number];
            kinds[number] = kind;
            rampWays[number] = way;
            return was;
        }

        boolean letMiss(int y, boolean is) {
            if (y < 0 || y >= SIDE) {
                return false;
            }
            boolean was = missing[y];
            missing[y] = is;
            return was;
        }

        int openFields() {
            int open = 0;
            for (int number = 0; number < FIELDS; number++) {
                if (kindNow(number) != WALL) {
                    open++;
                }
            }
            return open;
        }

        boolean isForMan(int number) {
            int kind = kindNow(number);
            return kind != WALL && kind != GRATE;
        }

        boolean manMayCome(int number, int way) {
            int kind = kindNow(number);
            return kind != WALL && kind != GRATE && (kind != RAMP || rampWay(number) == way);
        }

        boolean barrelMayCome(int number, int way) {
            int kind = kindNow(number);
            return kind != WALL && (kind != RAMP || rampWay(number) == way);
        }

        boolean rollsOn(int number) {
            int kind = kindNow(number);
            return kind == SLIDE || kind == RAMP;
        }

        private int rampWay(int number) {
            return number >= 0 && number < FIELDS ? rampWays[number] : NONE;
        }
    }

    /** Where the man and the barrels are, and what was done to bring them there. */
    private static final class Scene {
        int manAt;
        long barrels;
        int stepsDone;
        int pushesDone;

        Scene() {
            manAt = NONE;
        }

        void become(Scene other) {
            manAt = other.manAt;
            barrels = other.barrels;
            stepsDone = other.stepsDone;
            pushesDone = other.pushesDone;
        }

        boolean hasMan() {
            return manAt != NONE;
        }

        boolean hasBarrel(int number) {
            return has(barrels, number);
        }

        boolean isTaken(int number) {
            return manAt == number || hasBarrel(number);
        }

        /** A STEP: what step() answers. */
        int advance(Ground ground, int way) {
            if (!hasMan() || !isWay(way)) {
                return REFUSED;
            }
            int next = ground.beside(manAt, way);
            boolean isPush = hasBarrel(next);
            if (!ground.manMayCome(next, way)) {
                return isPush ? NOT_ONTO_ITS_FIELD : CAN_NOT_COME;
            }
            int went = isPush ? roll(ground, next, way) : 0;
            if (isPush && went == 0) {
                return BARREL_CAN_NOT_COME;
            }
            manAt = next;
            stepsDone++;
            pushesDone += isPush ? 1 : 0;
            return went;
        }

        /** Does the steps up to the first that can not be done: how many. */
        int advanceBy(Ground ground, Ways ways) {
            int did = 0;
            while (did < ways.size && advance(ground, ways.wayAt(did)) >= 0) {
                did++;
            }
            return did;
        }

        private int roll(Ground ground, int from, int way) {
            int last = from;
            int went = 0;
            while (went < SIDE && (went == 0 || ground.rollsOn(last))) {
                int next = ground.beside(last, way);
                if (hasBarrel(next) || !ground.barrelMayCome(next, way)) {
                    break;
                }
                last = next;
                went++;
            }
            barrels = with(with(barrels, from, false), last, true);
            return went;
        }
    }

    /** The scenes between the acts, for undo() and redo(). */
    private static final class Timeline {
        int now;
        private int last;
        private final int[] men;
        private final long[] barrels;
        private final int[] steps;
        private final int[] pushes;

        Timeline() {
            men = new int[MOST_ACTS + 1];
            barrels = new long[MOST_ACTS + 1];
            steps = new int[MOST_ACTS + 1];
            pushes = new int[MOST_ACTS + 1];
        }

        void forget() {
            now = 0;
            last = 0;
        }

        void record(Scene before, Scene after) {
            if (now >= MOST_ACTS) {
                return;
            }
            keep(now, before);
            now++;
            keep(now, after);
            last = now;
        }

        int goBack(Scene scene) {
            if (now <= 0) {
                return REFUSED;
            }
            now--;
            bring(now, scene);
            return now;
        }

        int goForth(Scene scene) {
            if (now >= last) {
                return REFUSED;
            }
            now++;
            bring(now, scene);
            return last - now;
        }

        private void keep(int i, Scene scene) {
            if (i < 0 || i > MOST_ACTS) {
                return;
            }
            men[i] = scene.manAt;
            barrels[i] = scene.barrels;
            steps[i] = scene.stepsDone;
            pushes[i] = scene.pushesDone;
        }

        private void bring(int i, Scene scene) {
            if (i < 0 || i > MOST_ACTS) {
                return;
            }
            scene.manAt = men[i];
            scene.barrels = barrels[i];
            scene.stepsDone = steps[i];
            scene.pushesDone = pushes[i];
        }
    }

    /** How far the man has to walk to each field. */
    private static final class Walks {
        int reached;
        private final int[] far;
        private final int[] queue;

        Walks() {
            far = new int[FIELDS];
            queue = new int[FIELDS];
        }

        void measure(Ground ground, Scene scene) {
            Arrays.fill(far, NONE);
            reached = 0;
            reach(scene.manAt, 0);
            for (int i = 0; i < reached && i < FIELDS; i++) {
                int number = queue[i];
                for (int way = 0; way < WAYS; way++) {
                    int next = ground.beside(number, way);
                    if (ground.manMayCome(next, way) && !scene.hasBarrel(next)) {
                        reach(next, stepsTo(number) + 1);
                    }
                }
            }
        }

        int stepsTo(int number) {
            return isField(number) ? far[number] : NONE;
        }

        private void reach(int number, int steps) {
            if (isField(number) && far[number] == NONE && reached < FIELDS) {
                far[number] = steps;
                queue[reached] = number;
                reached++;
            }
        }
    }

    /** How many pushes by themselves a barrel needs from one field to each other. */
    private static final class Prices {
        private int reached;
        private final int[] pushes;
        private final int[] queue;

        Prices() {
            pushes = new int[FIELDS];
            queue = new int[FIELDS];
        }

        void measure(Ground ground, int from) {
            Arrays.fill(pushes, NONE);
            reached = 0;
            reach(from, 0);
            for (int i = 0; i < reached && i < FIELDS; i++) {
                for (int way = 0; way < WAYS; way++) {
                    pushOn(ground, queue[i], way);
                }
            }
        }

        int priceTo(int number) {
            return isField(number) ? pushes[number] : NONE;
        }

        boolean isDead(Ground ground, int from) {
            if (ground.kindNow(from) == WALL) {
                return false;
            }
            measure(ground, from);
            for (int number = 0; number < FIELDS; number++) {
                if (has(ground.wanted, number) && pushes[number] != NONE) {
                    return false;
                }
            }
            return true;
        }

        private void pushOn(Ground ground, int number, int way) {
            boolean manFits = ground.isForMan(ground.beside(number, opposite(way)))
                    && ground.manMayCome(number, way);
            int next = ground.beside(number, way);
            for (int went = 0; went < SIDE && manFits && ground.barrelMayCome(next, way); went++) {
                reach(next, priceTo(number) + 1);
                if (!ground.rollsOn(next)) {
                    break;
                }
                next = ground.beside(next, way);
            }
        }

        private void reach(int number, int price) {
            if (isField(number) && pushes[number] == NONE && reached < FIELDS) {
                pushes[number] = price;
                queue[reached] = number;
                reached++;
            }
        }
    }

    /** The least sum of prices that gives each barrel a wanted field of its own. */
    private static final class Pairing {
        private static final int NO_SUM = 1 << 28;
        private final int[] marks;
        private final int[] sums;
        private int size;

        Pairing() {
            marks = new int[MOST_BARRELS];
            sums = new int[1 << MOST_BARRELS];
        }

        int leastSum(Ground ground, Prices prices, long barrels) {
            listMarks(ground.wanted);
            Arrays.fill(sums, NO_SUM);
            sums[0] = 0;
            int paired = 0;
            for (int number = 0; number < FIELDS; number++) {
                if (has(barrels, number)) {
                    prices.measure(ground, number);
                    pairNext(prices, paired);
                    paired++;
                }
            }
            int all = (1 << size) - 1;
            int sum = paired == size && all < sums.length ? sums[all] : NO_SUM;
            return sum < NO_SUM ? sum : NONE;
        }

        private void listMarks(long wanted) {
            size = 0;
            for (int number = 0; number < FIELDS; number++) {
                if (has(wanted, number) && size < MOST_BARRELS) {
                    marks[size] = number;
                    size++;
                }
            }
        }

        /** The sums of a set of marks are those of as many barrels, the first ones. */
        private void pairNext(Prices prices, int paired) {
            for (int set = 0; set < 1 << size && set < sums.length; set++) {
                if (Integer.bitCount(set) == paired && sums[set] < NO_SUM) {
                    pairWithEach(prices, set);
                }
            }
        }

        private void pairWithEach(Prices prices, int set) {
            for (int i = 0; i < size && i < MOST_BARRELS; i++) {
                int more = set | (1 << i);
                int price = prices.priceTo(marks[i]);
                if (more != set && price != NONE && set < sums.length && more < sums.length) {
                    sums[more] = Math.min(sums[more], sums[set] + price);
                }
            }
        }
    }

    /** A row of ways: the plan, and the tape. */
    private static final class Ways {
        /** More than there are situations in any search. */
        private static final int MOST_PLANNED = 1 << 17;

        int size;
        private int[] ways;

        Ways() {
            ways = new int[MOST_TOLD];
        }

        int wayAt(int i) {
            return isIn(i) ? ways[i] : REFUSED;
        }

        void append(int way) {
            if (size >= ways.length && size < MOST_PLANNED) {
                ways = Arrays.copyOf(ways, 2 * size + 1);
            }
            if (size < ways.length) {
                ways[size] = way;
                size++;
            }
        }

        void change(int i, int way) {
            if (isIn(i)) {
                ways[i] = way;
            }
        }

        void become(Ways other) {
            size = 0;
            for (int i = 0; i < other.size; i++) {
                append(other.wayAt(i));
            }
        }

        private boolean isIn(int i) {
            return i >= 0 && i < size && i < ways.length;
        }
    }

    /**
     * The fewest pushes, and of these the fewest steps. The open fields are numbered anew as cells; the sets of
     * cells with barrels have ranks, in the order of their bits as numbers; a situation is the rank of such a set
     * and, in the lowest bits, the man's cell.
     */
    private static final class Search {
        private static final int MAN_BITS = 5;
        private static final int MAN_MASK = (1 << MAN_BITS) - 1;
        private static final int MOST_SETS = 4060;
        private static final int STEP_BITS = 20;
        private static final long WALKED = 1L;
        private static final long PUSHED = (1L << STEP_BITS) + 1L;
        private static final long NO_COST = -1L;
        private static final long NO_OFFER = 1L << 60;
        private static final long LEADS = 1L << 50;

        private final int[] cellOf;
        private final int[] manTo;
        private final int[] barrelTo;
        private final boolean[] rolls;
        private int cells;
        private int liveCells;
        private int doneRank;
        private int[] sets;
        private int[] order;
        private long[] costs;
        private int reached;
        private long best;

        Search() {
            cellOf = new int[FIELDS];
            manTo = new int[MOST_SEARCHED_FIELDS * WAYS];
            barrelTo = new int[MOST_SEARCHED_FIELDS * WAYS];
            rolls = new boolean[MOST_SEARCHED_FIELDS];
            sets = new int[0];
            order = new int[0];
            costs = new long[0];
        }

        /** A barrel on a dead field comes to no wanted one, and each is needed, so such situations are left out. */
        int solve(Ground ground, Scene scene, long live, Ways found) {
            found.size = 0;
            if ((scene.barrels & ~live) != 0L) {
                return NONE;
            }
            numberCells(ground);
            for (int number = 0; number < FIELDS; number++) {
                joinCells(ground, number);
            }
            liveCells = setOf(live);
            doneRank = rankOf(setOf(ground.wanted));
            listSets(Long.bitCount(scene.barrels));
            int start = (rankOf(setOf(scene.barrels)) << MAN_BITS) | Math.max(0, cellAt(scene.manAt));
            explore(start);
            if (best == NO_COST) {
                return NONE;
            }
            markRows();
            takeRow(start, found);
            return (int) (best >> STEP_BITS);
        }

        private void numberCells(Ground ground) {
            cells = 0;
            for (int number = 0; number < FIELDS; number++) {
                boolean isCell = ground.kindNow(number) != WALL && cells < MOST_SEARCHED_FIELDS;
                cellOf[number] = isCell ? cells : NONE;
                cells += isCell ? 1 : 0;
            }
        }

        private void joinCells(Ground ground, int number) {
            int cell = cellAt(number);
            if (cell < 0 || cell >= MOST_SEARCHED_FIELDS) {
                return;
            }
            rolls[cell] = ground.rollsOn(number);
            for (int way = 0; way < WAYS; way++) {
                int next = ground.beside(number, way);
                manTo[cell * WAYS + way] = ground.manMayCome(next, way) ? cellAt(next) : NONE;
                barrelTo[cell * WAYS + way] = ground.barrelMayCome(next, way) ? cellAt(next) : NONE;
            }
        }

        private int cellAt(int number) {
            return isField(number) ? cellOf[number] : NONE;
        }

        private int setOf(long fields) {
            int set = 0;
            for (int number = 0; number < FIELDS; number++) {
                if (has(fields, number) && cellAt(number) != NONE) {
                    set |= 1 << cellAt(number);
                }
            }
            return set;
        }

        /** How many sets of as many cells are less as numbers: binomials of its cells, from the least on. */
        private static int rankOf(int set) {
            int rank = 0;
            int rest = set;
            for (int i = 1; i <= MOST_SEARCHED_BARRELS && rest != 0; i++) {
                int cell = Integer.bitCount((rest & -rest) - 1);
                int pairs = cell * (cell - 1) / 2;
                rank += i == 1 ? cell : i == 2 ? pairs : pairs * (cell - 2) / 3;
                rest &= rest - 1;
            }
            return rank;
        }

        private void listSets(int barrels) {
            int last = ((1 << barrels) - 1) << Math.max(0, cells - barrels);
            int count = Math.min(MOST_SETS, rankOf(last) + 1);
            makeRoom(count);
            int set = (1 << barrels) - 1;
            for (int rank = 0; rank < count && rank < sets.length; rank++) {
                sets[rank] = set;
                set = nextSet(set);
            }
        }

        /** The next greater number with as many bits. */
        private static int nextSet(int set) {
            int lowest = set & -set;
            int carried = set + lowest;
            return carried | ((set ^ carried) >>> (2 + Integer.bitCount(lowest - 1)));
        }

        private void makeRoom(int count) {
            if (sets.length < count) {
                int more = Math.min(MOST_SETS, Math.max(count, 2 * sets.length));
                sets = new int[Math.max(0, more)];
                order = new int[Math.max(0, more << MAN_BITS)];
                costs = new long[Math.max(0, more << MAN_BITS)];
            }
        }

        /**
         * Situations are reached in the order of their costs: pushes first, then steps. Both runners go along
         * that order, so the costs which each offers only grow, and the cheaper offer is the next cost.
         */
        private void explore(int start) {
            Arrays.fill(costs, NO_COST);
            reached = 0;
            best = NO_COST;
            reach(start, 0L);
            int walker = 0;
            int pusher = 0;
            int turns = 2 * order.length;
            for (int turn = 0; turn < turns && pusher < reached && pusher < order.length; turn++) {
                boolean canWalk = walker < reached && walker < order.length;
                long byWalk = canWalk ? costOf(order[walker]) + WALKED : NO_OFFER;
                long byPush = costOf(order[pusher]) + PUSHED;
                if (best != NO_COST && Math.min(byWalk, byPush) > best) {
                    break;
                }
                if (canWalk && byWalk < byPush) {
                    walkFrom(order[walker], byWalk);
                    walker++;
                } else {
                    pushFrom(order[pusher], byPush);
                    pusher++;
                }
            }
        }

        private void walkFrom(int situation, long cost) {
            for (int way = 0; way < WAYS; way++) {
                reach(walkedTo(situation, way), cost);
            }
        }

        private void pushFrom(int situation, long cost) {
            for (int way = 0; way < WAYS; way++) {
                reach(pushedTo(situation, way), cost);
            }
        }

        private void reach(int situation, long cost) {
            boolean isNew = situation >= 0 && situation < costs.length && costs[situation] == NO_COST;
            if (isNew && reached < order.length) {
                costs[situation] = cost;
                order[reached] = situation;
                reached++;
                if (best == NO_COST && situation >> MAN_BITS == doneRank) {
                    best = cost;
                }
            }
        }

        private long costOf(int situation) {
            return situation >= 0 && situation < costs.length ? costs[situation] : NO_COST;
        }

        private int setIn(int situation) {
            int rank = situation >> MAN_BITS;
            return rank >= 0 && rank < sets.length ? sets[rank] : 0;
        }

        private static int cellFrom(int[] to, int cell, int way) {
            int i = cell * WAYS + way;
            return i >= 0 && i < to.length ? to[i] : NONE;
        }

        private int walkedTo(int situation, int way) {
            int next = cellFrom(manTo, situation & MAN_MASK, way);
            if (next < 0 || (setIn(situation) >> next & 1) != 0) {
                return NONE;
            }
            return (situation & ~MAN_MASK) | next;
        }

        private int pushedTo(int situation, int way) {
            int set = setIn(situation);
            int next = cellFrom(manTo, situation & MAN_MASK, way);
            if (next < 0 || (set >> next & 1) == 0) {
                return NONE;
            }
            int last = rolledTo(set, next, way);
            if (last == next || (liveCells >> last & 1) == 0) {
                return NONE;
            }
            int pushed = set ^ (1 << next) ^ (1 << last);
            return (rankOf(pushed) << MAN_BITS) | next;
        }

        private int rolledTo(int set, int from, int way) {
            int last = from;
            for (int went = 0; went < SIDE; went++) {
                int next = cellFrom(barrelTo, last, way);
                if (next < 0 || next >= MOST_SEARCHED_FIELDS || (set >> next & 1) != 0) {
                    break;
                }
                last = next;
                if (!rolls[next]) {
                    break;
                }
            }
            return last;
        }

        /** From the dearest situation back: which lie on a row of the best cost. */
        private void markRows() {
            for (int i = Math.min(reached, order.length) - 1; i >= 0; i--) {
                int situation = order[i];
                boolean isLast = situation >> MAN_BITS == doneRank;
                if (situation >= 0 && situation < costs.length && (isLast || leastWay(situation) != NONE)) {
                    costs[situation] |= LEADS;
                }
            }
        }

        private int leastWay(int situation) {
            long cost = costOf(situation) & ~LEADS;
            for (int way = 0; way < WAYS; way++) {
                boolean walks = costOf(walkedTo(situation, way)) == (cost + WALKED | LEADS);
                if (walks || costOf(pushedTo(situation, way)) == (cost + PUSHED | LEADS)) {
                    return way;
                }
            }
            return NONE;
        }

        private void takeRow(int start, Ways found) {
            int situation = start;
            for (int i = 0; i < reached && situation >> MAN_BITS != doneRank; i++) {
                int way = leastWay(situation);
                if (way == NONE) {
                    break;
                }
                int walked = walkedTo(situation, way);
                situation = walked != NONE ? walked : pushedTo(situation, way);
                found.append(way);
            }
        }
    }
}
