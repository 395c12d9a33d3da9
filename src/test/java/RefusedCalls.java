import java.util.ArrayList;
import java.util.List;
import java.util.function.Supplier;

/** Each refused call, and each call that only asks: what it answers, and that all else is as it was without it. */
final class RefusedCalls {
    private static final int LEAST = Integer.MIN_VALUE;
    private static final int MOST = Integer.MAX_VALUE;
    /** Some would be fields inside, if 8 y + x were taken before x and y are looked at. */
    private static final int[][] OUTSIDE = {{-1, 0}, {5, 0}, {0, -1}, {0, 4}, {-1, 1}, {8, 0}, {9, 0}, {11, -1}, {-8, 1},
        {1, 1 << 29}, {1, 1 << 28}, {LEAST, 0}, {0, LEAST}, {MOST, 0}, {0, MOST}, {MOST, MOST}, {LEAST, LEAST}};
    private static final int[] NO_WAYS = {-1, 4, 5, LEAST, MOST, -2, 8};

    private final Sentences sentences;

    RefusedCalls(Sentences sentences) {
        this.sentences = sentences;
    }

    private interface Call {
        int on(CellarPushers cellar);
    }

    private record Named(String name, Call call) {
    }

    void test() {
        sentences.in("Terms");
        sentences.quote("-2 is what a refused call answers; it changes nothing.");
        outsideFields();
        changesOfFields();
        changesOfMenAndBarrels();
        ways();
        acts();
        questions();
        plansAndTapes();
        blockedActs();
        onlyAsked();
    }

    /** Compares with a twin on which the call is not made. */
    private void leavesAll(Supplier<CellarPushers> made, int due, String name, Call call) {
        CellarPushers cellar = made.get();
        sentences.due(name, call.on(cellar), due);
        sentences.same(name, Everything.of(cellar), Everything.of(made.get()));
    }

    private void refused(Supplier<CellarPushers> made, String name, Call call) {
        leavesAll(made, -2, name, call);
    }

    /** With acts behind and before it, a plan, a tape, a told why, and a line that is missing. */
    private static CellarPushers usual() {
        CellarPushers x = Drawing.drawn("....g", "mb.O.", "#s<.o", ".o>..");
        x.barrel(4, 3, true);
        x.want(4, 2, true);
        x.spoilt();
        x.barrel(4, 3, false);
        x.want(4, 2, false);
        x.fewest();
        x.line(3, true);
        x.tell(1);
        x.tell(1);
        x.tell(0);
        x.step(Drawing.NORTH);
        x.step(Drawing.SOUTH);
        x.push(1, 1, Drawing.EAST);
        x.walk(0, 1);
        x.undo();
        x.undo();
        return x;
    }

    private static CellarPushers withoutMan() {
        CellarPushers x = Drawing.drawn(".b.O.", "...s.");
        x.tell(1);
        return x;
    }

    private static CellarPushers withTwelve() {
        CellarPushers x = Drawing.drawn("bbbb", "bbbb", "bbbb", "m...");
        x.step(Drawing.EAST);
        x.step(Drawing.EAST);
        x.undo();
        return x;
    }

    private static CellarPushers withFullTape() {
        CellarPushers x = Drawing.drawn("m.", "..");
        for (int i = 0; i < 400; i++) {
            x.tell(i % 3);
        }
        return x;
    }

    /** READY at first, with a plan and a told why; then a barrel too many. */
    private static CellarPushers notReady() {
        CellarPushers x = Drawing.drawn("....", "mb.O");
        x.fewest();
        x.spoilt();
        x.barrel(0, 0, true);
        x.step(Drawing.EAST);
        return x;
    }

    private static CellarPushers planned(String... rows) {
        CellarPushers x = Drawing.drawn(rows);
        x.fewest();
        return x;
    }

    private void outsideFields() {
        for (int[] at : OUTSIDE) {
            int x = at[0];
            int y = at[1];
            for (Named named : callsOf(x, y)) {
                refused(RefusedCalls::usual, named.name + " of (" + x + ", " + y + ")", named.call);
            }
        }
    }

    private static List<Named> callsOf(int x, int y) {
        List<Named> calls = new ArrayList<>();
        calls.add(new Named("field", c -> c.field(x, y, 1, 0)));
        calls.add(new Named("field, RAMP", c -> c.field(x, y, 4, 2)));
        calls.add(new Named("barrel on", c -> c.barrel(x, y, true)));
        calls.add(new Named("barrel off", c -> c.barrel(x, y, false)));
        calls.add(new Named("man", c -> c.man(x, y)));
        calls.add(new Named("want", c -> c.want(x, y, true)));
        calls.add(new Named("want not", c -> c.want(x, y, false)));
        calls.add(new Named("walk", c -> c.walk(x, y)));
        calls.add(new Named("push", c -> c.push(x, y, 1)));
        calls.add(new Named("can", c -> c.can(x, y, 1)));
        calls.add(new Named("kind", c -> c.kind(x, y)));
        calls.add(new Named("on", c -> c.on(x, y)));
        calls.add(new Named("far", c -> c.far(x, y)));
        calls.add(new Named("dead", c -> c.dead(x, y)));
        calls.add(new Named("held", c -> c.held(x, y)));
        calls.add(new Named("price from", c -> c.price(x, y, 1, 1)));
        calls.add(new Named("price to", c -> c.price(1, 1, x, y)));
        calls.add(new Named("price from and to", c -> c.price(x, y, x, y)));
        return calls;
    }

    private void changesOfFields() {
        for (int kind : new int[] {-1, 6, 7, LEAST, MOST}) {
            refused(RefusedCalls::usual, "field(3, 0, " + kind + ", 0)", c -> c.field(3, 0, kind, 0));
        }
        for (int way : NO_WAYS) {
            refused(RefusedCalls::usual, "field(2, 2, 4, " + way + ")", c -> c.field(2, 2, 4, way));
        }
        for (int kind : new int[] {0, 1, 2, 3, 5}) {
            for (int way : new int[] {1, 2, 3, 4, -1, LEAST, MOST}) {
                refused(RefusedCalls::usual, "field(3, 0, " + kind + ", " + way + ")", c -> c.field(3, 0, kind, way));
            }
        }
        for (int kind = 0; kind < 6; kind++) {
            int some = kind;
            refused(RefusedCalls::usual, "field with a barrel", c -> c.field(1, 1, some, 0));
            refused(RefusedCalls::usual, "field with the man", c -> c.field(0, 1, some, 0));
            refused(RefusedCalls::usual, "field that is WANTED", c -> c.field(3, 1, some, 0));
        }
        for (int y : new int[] {-1, 4, 5, 7, 8, LEAST, MOST}) {
            refused(RefusedCalls::usual, "line(" + y + ", true)", c -> c.line(y, true));
            refused(RefusedCalls::usual, "line(" + y + ", false)", c -> c.line(y, false));
        }
        for (String line : new String[] {"m...", "...m", "b...", "...b", "O...", "...G", "..B."}) {
            refused(() -> Drawing.drawn("..m.", line, "...."), "line of " + line, c -> c.line(1, true));
            refused(() -> Drawing.drawn("..m.", line, "...."), "line of " + line, c -> c.line(1, false));
        }
    }

    private void changesOfMenAndBarrels() {
        refused(RefusedCalls::usual, "barrel on WALL", c -> c.barrel(0, 2, true));
        refused(RefusedCalls::usual, "barrel in a MISSING line", c -> c.barrel(0, 3, true));
        refused(RefusedCalls::usual, "barrel on the man", c -> c.barrel(0, 1, true));
        refused(RefusedCalls::withTwelve, "a 13th barrel", c -> c.barrel(3, 3, true));
        refused(RefusedCalls::withTwelve, "one of 12 barrels", c -> c.barrel(0, 0, true));
        refused(RefusedCalls::usual, "man on WALL", c -> c.man(0, 2));
        refused(RefusedCalls::usual, "man in a MISSING line", c -> c.man(0, 3));
        refused(RefusedCalls::usual, "man on a GRATE", c -> c.man(4, 0));
        refused(RefusedCalls::usual, "man on a barrel", c -> c.man(1, 1));
        for (boolean is : new boolean[] {true, false}) {
            refused(RefusedCalls::usual, "want WALL", c -> c.want(0, 2, is));
            refused(RefusedCalls::usual, "want FLOOR", c -> c.want(0, 0, is));
            refused(RefusedCalls::usual, "want the man's FLOOR", c -> c.want(0, 1, is));
            refused(RefusedCalls::usual, "want a SLIDE", c -> c.want(1, 2, is));
            refused(RefusedCalls::usual, "want a RAMP", c -> c.want(2, 2, is));
            refused(RefusedCalls::usual, "want a MARK of a MISSING line", c -> c.want(1, 3, is));
        }
    }

    private void ways() {
        for (int way : NO_WAYS) {
            refused(RefusedCalls::usual, "step(" + way + ")", c -> c.step(way));
            refused(RefusedCalls::usual, "push(1, 1, " + way + ")", c -> c.push(1, 1, way));
            refused(RefusedCalls::usual, "can(1, 1, " + way + ")", c -> c.can(1, 1, way));
            refused(RefusedCalls::usual, "tell(" + way + ")", c -> c.tell(way));
            refused(RefusedCalls::usual, "forge(0, " + way + ")", c -> c.forge(0, way));
        }
    }

    private void acts() {
        for (int way = 0; way < 4; way++) {
            int some = way;
            refused(RefusedCalls::withoutMan, "step without a man", c -> c.step(some));
            refused(RefusedCalls::withoutMan, "push without a man", c -> c.push(1, 0, some));
            refused(RefusedCalls::withoutMan, "can without a man", c -> c.can(1, 0, some));
            refused(RefusedCalls::usual, "push of no barrel", c -> c.push(2, 1, some));
            refused(RefusedCalls::usual, "push of the man", c -> c.push(0, 1, some));
            refused(RefusedCalls::usual, "can of no barrel", c -> c.can(2, 1, some));
        }
        refused(RefusedCalls::withoutMan, "walk without a man", c -> c.walk(0, 0));
        refused(RefusedCalls::notReady, "redo of nothing", CellarPushers::redo);
        refused(RefusedCalls::withoutMan, "undo of nothing", CellarPushers::undo);
        refused(() -> planned("mb.O"), "undo of nothing", CellarPushers::undo);
    }

    private void questions() {
        refused(RefusedCalls::withoutMan, "far without a man", c -> c.far(0, 0));
        refused(RefusedCalls::withoutMan, "spoilt without a man", CellarPushers::spoilt);
        refused(RefusedCalls::withoutMan, "low without a man", CellarPushers::low);
        refused(RefusedCalls::withoutMan, "fewest without a man", CellarPushers::fewest);
        refused(RefusedCalls::withoutMan, "check without a man", CellarPushers::check);
        refused(RefusedCalls::notReady, "spoilt of a cellar not READY", CellarPushers::spoilt);
        refused(RefusedCalls::notReady, "low of a cellar not READY", CellarPushers::low);
        refused(RefusedCalls::notReady, "fewest of a cellar not READY", CellarPushers::fewest);
        refused(RefusedCalls::usual, "price from WALL", c -> c.price(0, 2, 1, 1));
        refused(RefusedCalls::usual, "price to WALL", c -> c.price(1, 1, 0, 2));
        refused(RefusedCalls::usual, "price of WALL to itself", c -> c.price(0, 2, 0, 2));
        refused(RefusedCalls::usual, "price from a MISSING line", c -> c.price(0, 3, 1, 1));
        refused(RefusedCalls::usual, "price to a MISSING line", c -> c.price(1, 1, 0, 3));
        for (int what : new int[] {-1, 9, 10, LEAST, MOST}) {
            refused(RefusedCalls::usual, "count(" + what + ")", c -> c.count(what));
        }
    }

    private static CellarPushers fourBarrels() {
        CellarPushers x = planned("mb.O", "....", "oo.o");
        for (int i = 0; i < 4; i++) {
            if (i != 2) {
                x.want(i, 2, true);
                x.barrel(i, 1, true);
            }
        }
        return x;
    }

    /** With a plan from when it had but 5 fields that are no WALL; 31 now. */
    private static CellarPushers large() {
        CellarPushers x = new CellarPushers(7, 5);
        for (int i = 0; i < 5; i++) {
            x.field(i, 0, i == 3 ? 2 : 1, 0);
        }
        x.man(0, 0);
        x.barrel(1, 0, true);
        x.want(3, 0, true);
        x.fewest();
        for (int i = 5; i < 31; i++) {
            x.field(i % 7, i / 7, 1, 0);
        }
        return x;
    }

    private void plansAndTapes() {
        refused(RefusedCalls::fourBarrels, "fewest of 4 barrels", CellarPushers::fewest);
        refused(RefusedCalls::large, "fewest of 31 fields", CellarPushers::fewest);
        for (int i : new int[] {-1, 2, 3, LEAST, MOST}) {
            refused(RefusedCalls::usual, "plan(" + i + ")", c -> c.plan(i));
        }
        for (int i : new int[] {-1, 3, 4, LEAST, MOST}) {
            refused(RefusedCalls::usual, "forge(" + i + ", 1)", c -> c.forge(i, 1));
        }
        refused(RefusedCalls::withFullTape, "a 401st way", c -> c.tell(1));
        refused(RefusedCalls::withFullTape, "a forged 401st way", c -> c.forge(400, 1));
        refused(RefusedCalls::withFullTape, "follow without a plan", CellarPushers::follow);
        for (int step = 1; step <= 3; step++) {
            int some = step;
            refused(() -> stuckPlan(some), "follow, stuck in step " + step + " of 3", CellarPushers::follow);
        }
    }

    /** The plan is three pushes east, but there is a WALL now where one of them brings the barrel. */
    private static CellarPushers stuckPlan(int step) {
        CellarPushers x = planned("mb..O", ".....");
        x.want(4, 0, false);
        x.field(1 + step, 0, 0, 0);
        x.step(Drawing.SOUTH);
        x.step(Drawing.NORTH);
        x.undo();
        x.walk(0, 0);
        return x;
    }

    private void blockedActs() {
        leavesAll(RefusedCalls::usual, -3, "step to the outside", c -> c.step(Drawing.WEST));
        leavesAll(RefusedCalls::usual, -3, "step onto WALL", c -> c.step(Drawing.SOUTH));
        leavesAll(RefusedCalls::usual, -3, "walk onto WALL", c -> c.walk(0, 2));
        leavesAll(RefusedCalls::usual, -3, "walk onto a barrel", c -> c.walk(1, 1));
        leavesAll(RefusedCalls::usual, -3, "walk onto a GRATE", c -> c.walk(4, 0));
        leavesAll(RefusedCalls::usual, -3, "walk onto a MISSING line", c -> c.walk(0, 3));
        leavesAll(RefusedCalls::withHistory, -3, "push from the outside", c -> c.push(1, 0, Drawing.SOUTH));
        leavesAll(RefusedCalls::withHistory, -4, "push on a GRATE", c -> c.push(1, 1, Drawing.WEST));
        leavesAll(RefusedCalls::withHistory, -5, "push of a stuck one", c -> c.push(2, 0, Drawing.WEST));
        leavesAll(RefusedCalls::withHistory, -4, "step to a GRATE", c -> c.step(Drawing.EAST));
        leavesAll(RefusedCalls::withHistory, -5, "step to a stuck one", c -> c.step(Drawing.NORTH));
    }

    private static CellarPushers withHistory() {
        CellarPushers x = Drawing.drawn("bbb.", "mh..", "....");
        x.step(Drawing.SOUTH);
        x.step(Drawing.EAST);
        x.walk(0, 1);
        x.step(Drawing.SOUTH);
        x.undo();
        return x;
    }

    /** What only asks leaves all as it was, too. */
    private void onlyAsked() {
        asked("Promise 10", "What push() would answer; nothing is done.", 1, c -> c.can(1, 1, Drawing.EAST));
        asked("Promise 10", "What push() would answer; nothing is done.", 1, c -> c.can(1, 1, Drawing.NORTH));
        leavesAll(RefusedCalls::withHistory, -3, "can, from the outside", c -> c.can(1, 0, Drawing.SOUTH));
        leavesAll(RefusedCalls::withHistory, -4, "can, on a GRATE", c -> c.can(1, 1, Drawing.WEST));
        leavesAll(RefusedCalls::withHistory, -5, "can, a stuck one", c -> c.can(2, 0, Drawing.WEST));
        asked("Promise 13", "The KIND of a field", 5, c -> c.kind(4, 0));
        asked("Promise 14", "What is on a field", 1, c -> c.on(1, 1));
        asked("Promise 15", "The fewest steps by which the man can walk to a field", 3, c -> c.far(2, 0));
        asked("Promise 16", "Whether the cellar is DONE.", 0, c -> c.isDone() ? 1 : 0);
        asked("Promise 17", "Whether it is READY.", 1, c -> c.isReady() ? 1 : 0);
        asked("Promise 18", "1 if a field is DEAD, else 0.", 1, c -> c.dead(0, 0));
        asked("Promise 19", "1 if a barrel on a field is HELD", 0, c -> c.held(1, 1));
        asked("Promise 21", "The NUMBER of the least field", 28, CellarPushers::why);
        asked("Promise 22", "LOW; -1 when there is none.", 2, CellarPushers::low);
        asked("Promise 23", "The PRICE from a field to another one", 2, c -> c.price(1, 1, 3, 1));
        asked("Promise 25", "How many steps THE PLAN has.", 2, CellarPushers::steps);
        asked("Promise 26", "The i-th way of THE PLAN", 1, c -> c.plan(1));
        asked("Promise 32", "Nothing is done.", 1003, CellarPushers::check);
        asked("Promise 33", "6 acts that can be undone", 2, c -> c.count(6));
    }

    private void asked(String section, String words, int due, Call call) {
        sentences.in(section);
        sentences.quote(words);
        leavesAll(RefusedCalls::usual, due, "a question", call);
    }
}
