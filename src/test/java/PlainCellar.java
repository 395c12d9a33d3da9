import java.util.ArrayList;
import java.util.Arrays;
import java.util.HashMap;
import java.util.List;
import java.util.Map;
import java.util.PriorityQueue;

/**
 * The document once more, in the slowest and plainest form, and by other ways than CellarPushers: walks and
 * prices by relaxing until nothing changes, held barrels and pairings by trying all, plans by their whole texts.
 */
final class PlainCellar {
    private static final int[] DX = {0, 1, 0, -1};
    private static final int[] DY = {-1, 0, 1, 0};
    private static final int NEVER = 1_000_000;

    private final int width;
    private final int height;
    private final int[][] kinds = new int[8][8];
    private final int[][] ramps = new int[8][8];
    private final boolean[] missing = new boolean[8];
    private final boolean[][] wanted = new boolean[8][8];
    private Moment now = new Moment();
    private final List<Moment> past = new ArrayList<>();
    private final List<Moment> future = new ArrayList<>();
    private List<Integer> plan = new ArrayList<>();
    private List<Integer> tape = new ArrayList<>();
    private int why = -1;

    /** Man, barrels, steps and pushes. */
    private static final class Moment {
        boolean manIn;
        int manX;
        int manY;
        boolean[][] barrels = new boolean[8][8];
        int steps;
        int pushes;

        Moment twin() {
            Moment twin = new Moment();
            twin.manIn = manIn;
            twin.manX = manX;
            twin.manY = manY;
            for (int y = 0; y < 8; y++) {
                twin.barrels[y] = barrels[y].clone();
            }
            twin.steps = steps;
            twin.pushes = pushes;
            return twin;
        }

        String key() {
            return manX + "," + manY + Arrays.deepToString(barrels);
        }
    }

    PlainCellar(int width, int height) {
        this.width = width < 2 ? 2 : width > 8 ? 8 : width;
        this.height = height < 2 ? 2 : height > 8 ? 8 : height;
    }

    private boolean inside(int x, int y) {
        return 0 <= x && x < width && 0 <= y && y < height;
    }

    private int kindAt(int x, int y) {
        return !inside(x, y) || missing[y] ? 0 : kinds[y][x];
    }

    private boolean barrelAt(Moment m, int x, int y) {
        return inside(x, y) && m.barrels[y][x];
    }

    private boolean manAt(int x, int y) {
        return now.manIn && now.manX == x && now.manY == y;
    }

    private boolean manFits(int x, int y, int way) {
        int k = kindAt(x, y);
        if (k == 4) {
            return ramps[y][x] == way;
        }
        return k != 0 && k != 5;
    }

    private boolean barrelFits(int x, int y, int way) {
        int k = kindAt(x, y);
        if (k == 4) {
            return ramps[y][x] == way;
        }
        return k != 0;
    }

    private int barrelCount(Moment m) {
        int n = 0;
        for (boolean[] row : m.barrels) {
            for (boolean b : row) {
                n += b ? 1 : 0;
            }
        }
        return n;
    }

    private int wantedCount() {
        int n = 0;
        for (boolean[] row : wanted) {
            for (boolean b : row) {
                n += b ? 1 : 0;
            }
        }
        return n;
    }

    private int openCount() {
        int n = 0;
        for (int y = 0; y < height; y++) {
            for (int x = 0; x < width; x++) {
                n += kindAt(x, y) != 0 ? 1 : 0;
            }
        }
        return n;
    }

    private boolean done(Moment m) {
        for (int y = 0; y < height; y++) {
            for (int x = 0; x < width; x++) {
                if (wanted[y][x] && !m.barrels[y][x]) {
                    return false;
                }
            }
        }
        return true;
    }

    private void noActs() {
        past.clear();
        future.clear();
    }

    private int act(Moment after, int answer) {
        past.add(now);
        future.clear();
        now = after;
        return answer;
    }

    int field(int x, int y, int kind, int way) {
        if (!inside(x, y) || kind < 0 || kind > 5) {
            return -2;
        }
        if (kind == 4 && (way < 0 || way > 3) || kind != 4 && way != 0) {
            return -2;
        }
        if (now.barrels[y][x] || manAt(x, y) || wanted[y][x]) {
            return -2;
        }
        noActs();
        int was = kinds[y][x];
        kinds[y][x] = kind;
        ramps[y][x] = way;
        return was;
    }

    int line(int y, boolean is) {
        if (y < 0 || y >= height) {
            return -2;
        }
        for (int x = 0; x < width; x++) {
            if (now.barrels[y][x] || manAt(x, y) || wanted[y][x]) {
                return -2;
            }
        }
        noActs();
        int was = missing[y] ? 1 : 0;
        missing[y] = is;
        return was;
    }

    int barrel(int x, int y, boolean on) {
        if (!inside(x, y)) {
            return -2;
        }
        if (on && (kindAt(x, y) == 0 || manAt(x, y) || barrelCount(now) == 12)) {
            return -2;
        }
        noActs();
        int was = now.barrels[y][x] ? 1 : 0;
        now.barrels[y][x] = on;
        return was;
    }

    int man(int x, int y) {
        if (!inside(x, y) || kindAt(x, y) == 0 || kindAt(x, y) == 5 || now.barrels[y][x]) {
            return -2;
        }
        noActs();
        int was = now.manIn ? 1 : 0;
        now.manIn = true;
        now.manX = x;
        now.manY = y;
        return was;
    }

    int want(int x, int y, boolean is) {
        if (kindAt(x, y) != 2 && kindAt(x, y) != 5) {
            return -2;
        }
        noActs();
        int was = wanted[y][x] ? 1 : 0;
        wanted[y][x] = is;
        return was;
    }

    /** Changes the moment only if the answer is 0 or more. */
    private int stepIn(Moment m, int way) {
        if (!m.manIn || way < 0 || way > 3) {
            return -2;
        }
        int x = m.manX + DX[way];
        int y = m.manY + DY[way];
        if (!barrelAt(m, x, y)) {
            if (!manFits(x, y, way)) {
                return -3;
            }
            m.manX = x;
            m.manY = y;
            m.steps++;
            return 0;
        }
        if (!manFits(x, y, way)) {
            return -4;
        }
        int bx = x + DX[way];
        int by = y + DY[way];
        if (barrelAt(m, bx, by) || !barrelFits(bx, by, way)) {
            return -5;
        }
        int went = 1;
        while (kindAt(bx, by) == 3 || kindAt(bx, by) == 4) {
            int nx = bx + DX[way];
            int ny = by + DY[way];
            if (barrelAt(m, nx, ny) || !barrelFits(nx, ny, way)) {
                break;
            }
            bx = nx;
            by = ny;
            went++;
        }
        m.barrels[y][x] = false;
        m.barrels[by][bx] = true;
        m.manX = x;
        m.manY = y;
        m.steps++;
        m.pushes++;
        return went;
    }

    int step(int way) {
        Moment m = now.twin();
        int answer = stepIn(m, way);
        return answer < 0 ? answer : act(m, answer);
    }

    private int[][] walks() {
        int[][] far = new int[8][8];
        for (int[] row : far) {
            Arrays.fill(row, NEVER);
        }
        if (!now.manIn) {
            return far;
        }
        far[now.manY][now.manX] = 0;
        boolean changed = true;
        while (changed) {
            changed = false;
            for (int y = 0; y < height; y++) {
                for (int x = 0; x < width; x++) {
                    for (int way = 0; way < 4; way++) {
                        int nx = x + DX[way];
                        int ny = y + DY[way];
                        if (far[y][x] < NEVER && manFits(nx, ny, way) && !barrelAt(now, nx, ny)
                                && far[ny][nx] > far[y][x] + 1) {
                            far[ny][nx] = far[y][x] + 1;
                            changed = true;
                        }
                    }
                }
            }
        }
        return far;
    }

    int walk(int x, int y) {
        if (!now.manIn || !inside(x, y)) {
            return -2;
        }
        int far = walks()[y][x];
        if (far == NEVER) {
            return -3;
        }
        Moment m = now.twin();
        m.manX = x;
        m.manY = y;
        m.steps += far;
        return act(m, far);
    }

    private int pushIn(Moment m, int x, int y, int way) {
        if (!m.manIn || !inside(x, y) || way < 0 || way > 3 || !m.barrels[y][x]) {
            return -2;
        }
        int px = x - DX[way];
        int py = y - DY[way];
        if (!inside(px, py) || walks()[py][px] == NEVER) {
            return -3;
        }
        m.steps += walks()[py][px];
        m.manX = px;
        m.manY = py;
        return stepIn(m, way);
    }

    int push(int x, int y, int way) {
        Moment m = now.twin();
        int answer = pushIn(m, x, y, way);
        return answer < 0 ? answer : act(m, answer);
    }

    int can(int x, int y, int way) {
        return pushIn(now.twin(), x, y, way);
    }

    int undo() {
        if (past.isEmpty()) {
            return -2;
        }
        future.add(now);
        now = past.remove(past.size() - 1);
        return past.size();
    }

    int redo() {
        if (future.isEmpty()) {
            return -2;
        }
        past.add(now);
        now = future.remove(future.size() - 1);
        return future.size();
    }

    int kind(int x, int y) {
        return inside(x, y) ? kindAt(x, y) : -2;
    }

    int on(int x, int y) {
        if (!inside(x, y)) {
            return -2;
        }
        return (now.barrels[y][x] ? 1 : 0) + (manAt(x, y) ? 2 : 0) + (wanted[y][x] ? 4 : 0);
    }

    int far(int x, int y) {
        if (!now.manIn || !inside(x, y)) {
            return -2;
        }
        int far = walks()[y][x];
        return far == NEVER ? -1 : far;
    }

    boolean isDone() {
        return done(now);
    }

    boolean isReady() {
        return now.manIn && barrelCount(now) > 0 && barrelCount(now) == wantedCount();
    }

    private int[][] prices(int fromX, int fromY) {
        int[][] price = new int[8][8];
        for (int[] row : price) {
            Arrays.fill(row, NEVER);
        }
        price[fromY][fromX] = 0;
        boolean changed = true;
        while (changed) {
            changed = false;
            for (int y = 0; y < height; y++) {
                for (int x = 0; x < width; x++) {
                    for (int way = 0; way < 4; way++) {
                        changed |= price[y][x] < NEVER && relaxPush(price, x, y, way);
                    }
                }
            }
        }
        return price;
    }

    private boolean relaxPush(int[][] price, int x, int y, int way) {
        int before = kindAt(x - DX[way], y - DY[way]);
        if (before == 0 || before == 5 || !manFits(x, y, way)) {
            return false;
        }
        boolean changed = false;
        int bx = x + DX[way];
        int by = y + DY[way];
        while (barrelFits(bx, by, way)) {
            if (price[by][bx] > price[y][x] + 1) {
                price[by][bx] = price[y][x] + 1;
                changed = true;
            }
            if (kindAt(bx, by) != 3 && kindAt(bx, by) != 4) {
                break;
            }
            bx += DX[way];
            by += DY[way];
        }
        return changed;
    }

    private boolean isDead(int x, int y) {
        if (kindAt(x, y) == 0) {
            return false;
        }
        int[][] price = prices(x, y);
        for (int ty = 0; ty < height; ty++) {
            for (int tx = 0; tx < width; tx++) {
                if (wanted[ty][tx] && price[ty][tx] < NEVER) {
                    return false;
                }
            }
        }
        return true;
    }

    int dead(int x, int y) {
        if (!inside(x, y)) {
            return -2;
        }
        return isDead(x, y) ? 1 : 0;
    }

    private List<int[]> barrelList() {
        List<int[]> list = new ArrayList<>();
        for (int y = 0; y < height; y++) {
            for (int x = 0; x < width; x++) {
                if (now.barrels[y][x]) {
                    list.add(new int[] {x, y});
                }
            }
        }
        return list;
    }

    /** The union of all sets of barrels that hold themselves. */
    private boolean[][] heldBarrels() {
        List<int[]> list = barrelList();
        boolean[][] held = new boolean[8][8];
        for (int set = 0; set < 1 << list.size(); set++) {
            boolean[][] some = new boolean[8][8];
            for (int i = 0; i < list.size(); i++) {
                some[list.get(i)[1]][list.get(i)[0]] = (set >> i & 1) == 1;
            }
            boolean all = true;
            for (int i = 0; i < list.size() && all; i++) {
                all = (set >> i & 1) == 0 || holdsItself(some, list.get(i)[0], list.get(i)[1]);
            }
            for (int i = 0; i < list.size() && all; i++) {
                held[list.get(i)[1]][list.get(i)[0]] |= (set >> i & 1) == 1;
            }
        }
        return held;
    }

    private boolean holdsItself(boolean[][] some, int x, int y) {
        return kindAt(x, y) == 5
                || (stops(some, x, y - 1) || stops(some, x, y + 1))
                && (stops(some, x - 1, y) || stops(some, x + 1, y));
    }

    private boolean stops(boolean[][] some, int x, int y) {
        return kindAt(x, y) == 0 || some[y][x];
    }

    int held(int x, int y) {
        if (!inside(x, y)) {
            return -2;
        }
        return heldBarrels()[y][x] ? 1 : 0;
    }

    int spoilt() {
        if (!isReady()) {
            return -2;
        }
        why = -1;
        for (int[] b : barrelList()) {
            if (isDead(b[0], b[1])) {
                why = 8 * b[1] + b[0];
                return 1;
            }
        }
        boolean[][] held = heldBarrels();
        for (int[] b : barrelList()) {
            if (held[b[1]][b[0]] && !wanted[b[1]][b[0]]) {
                why = 8 * b[1] + b[0];
                return 2;
            }
        }
        return 0;
    }

    int why() {
        return why;
    }

    int low() {
        if (!isReady()) {
            return -2;
        }
        List<int[][]> prices = new ArrayList<>();
        for (int[] b : barrelList()) {
            prices.add(prices(b[0], b[1]));
        }
        int low = pair(prices, 0, new boolean[8][8]);
        return low >= NEVER ? -1 : low;
    }

    private int pair(List<int[][]> prices, int i, boolean[][] given) {
        if (i == prices.size()) {
            return 0;
        }
        int least = NEVER;
        for (int y = 0; y < height; y++) {
            for (int x = 0; x < width; x++) {
                int price = prices.get(i)[y][x];
                if (wanted[y][x] && !given[y][x] && price < NEVER) {
                    given[y][x] = true;
                    least = Math.min(least, price + pair(prices, i + 1, given));
                    given[y][x] = false;
                }
            }
        }
        return least;
    }

    int price(int x, int y, int toX, int toY) {
        if (kindAt(x, y) == 0 || kindAt(toX, toY) == 0) {
            return -2;
        }
        int price = prices(x, y)[toY][toX];
        return price == NEVER ? -1 : price;
    }

    private record Row(Moment end, int pushes, String ways) {
    }

    private static int compare(Row a, Row b) {
        if (a.pushes != b.pushes) {
            return Integer.compare(a.pushes, b.pushes);
        }
        if (a.ways.length() != b.ways.length()) {
            return Integer.compare(a.ways.length(), b.ways.length());
        }
        return a.ways.compareTo(b.ways);
    }

    int fewest() {
        if (!isReady() || barrelCount(now) > 3 || openCount() > 30) {
            return -2;
        }
        plan = new ArrayList<>();
        PriorityQueue<Row> rows = new PriorityQueue<>(PlainCellar::compare);
        Map<String, Boolean> ended = new HashMap<>();
        rows.add(new Row(now.twin(), 0, ""));
        while (!rows.isEmpty()) {
            Row row = rows.remove();
            if (done(row.end)) {
                for (char way : row.ways.toCharArray()) {
                    plan.add(way - '0');
                }
                return row.pushes;
            }
            if (ended.put(row.end.key(), true) == null) {
                addLonger(rows, row);
            }
        }
        return -1;
    }

    private void addLonger(PriorityQueue<Row> rows, Row row) {
        for (int way = 0; way < 4; way++) {
            Moment m = row.end.twin();
            int answer = stepIn(m, way);
            if (answer >= 0) {
                rows.add(new Row(m, row.pushes + (answer > 0 ? 1 : 0), row.ways + way));
            }
        }
    }

    int steps() {
        return plan.size();
    }

    int plan(int i) {
        return i < 0 || i >= plan.size() ? -2 : plan.get(i);
    }

    int follow() {
        Moment m = now.twin();
        for (int way : plan) {
            if (stepIn(m, way) < 0) {
                return -2;
            }
        }
        return plan.isEmpty() ? -2 : act(m, plan.size());
    }

    int tell(int way) {
        if (way < 0 || way > 3 || tape.size() == 400) {
            return -2;
        }
        tape.add(way);
        return tape.size();
    }

    int copy() {
        if (plan.size() > 400) {
            return -2;
        }
        tape = new ArrayList<>(plan);
        return tape.size();
    }

    int forge(int i, int way) {
        if (i < 0 || i >= tape.size() || way < 0 || way > 3) {
            return -2;
        }
        return tape.set(i, way);
    }

    int hush() {
        int had = tape.size();
        tape.clear();
        return had;
    }

    int check() {
        if (!now.manIn) {
            return -2;
        }
        Moment m = now.twin();
        int did = 0;
        for (int way : tape) {
            if (stepIn(m, way) < 0) {
                return did;
            }
            did++;
        }
        return done(m) ? 1000 + did : did;
    }

    int count(int what) {
        int walked = 0;
        for (int[] row : walks()) {
            for (int far : row) {
                walked += far < NEVER ? 1 : 0;
            }
        }
        int[] counts = {openCount(), barrelCount(now), wantedCount(), now.steps, now.pushes, walked,
            past.size(), tape.size(), now.manIn ? 8 * now.manY + now.manX : -1};
        return what < 0 || what >= counts.length ? -2 : counts[what];
    }
}
