/** For each promise of the document: ordinary inputs, the edges that it names, and wrong inputs. */
public final class PromiseTests {
    private static final int NORTH = Drawing.NORTH;
    private static final int EAST = Drawing.EAST;
    private static final int SOUTH = Drawing.SOUTH;
    private static final int WEST = Drawing.WEST;

    private static int promise;
    private static int passed;
    private static int failed;

    private PromiseTests() {
    }

    public static void main(String[] args) {
        newObject();
        fields();
        fieldsInUse();
        lines();
        barrels();
        men();
        wants();
        steps();
        rolling();
        walks();
        pushes();
        cans();
        undone();
        undoneNoMore();
        redone();
        kinds();
        whatIsOn();
        fars();
        doneCellars();
        readyCellars();
        deadFields();
        heldBarrels();
        spoiltCellars();
        whys();
        lows();
        prices();
        fewestPushes();
        refusedSearches();
        planSteps();
        planWays();
        followed();
        told();
        copied();
        longPlan();
        forged();
        hushed();
        checked();
        counts();
        callsBeyondTheEnd();
        System.out.println("PromiseTests: " + passed + " passed, " + failed + " failed");
        if (failed != 0) {
            System.exit(1);
        }
    }

    private static void due(String what, int got, int want) {
        if (got == want) {
            passed++;
        } else {
            failed++;
            System.out.println("promise " + promise + ": " + what + " answered " + got + ", due is " + want);
        }
    }

    private static void due(String what, boolean got, boolean want) {
        due(what, got ? 1 : 0, want ? 1 : 0);
    }

    private static CellarPushers drawn(String... rows) {
        return Drawing.drawn(rows);
    }

    private static void newObject() {
        promise = 1;
        int[][] sizes = {{6, 4, 6, 4}, {2, 8, 2, 8}, {1, 9, 2, 8}, {0, -5, 2, 2}, {100, 3, 8, 3},
            {Integer.MIN_VALUE, Integer.MAX_VALUE, 2, 8}};
        for (int[] size : sizes) {
            CellarPushers x = new CellarPushers(size[0], size[1]);
            due("last field", x.kind(size[2] - 1, size[3] - 1), 0);
            due("right of it", x.kind(size[2], size[3] - 1), -2);
            due("below it", x.kind(size[2] - 1, size[3]), -2);
        }
        CellarPushers x = new CellarPushers(3, 3);
        int[] counts = {0, 0, 0, 0, 0, 0, 0, 0, -1};
        for (int what = 0; what < counts.length; what++) {
            due("count(" + what + ")", x.count(what), counts[what]);
        }
        due("isDone", x.isDone(), true);
        due("isReady", x.isReady(), false);
    }

    private static void fields() {
        promise = 2;
        CellarPushers x = new CellarPushers(4, 3);
        due("to RAMP", x.field(0, 0, 4, 3), 0);
        due("was RAMP", x.field(0, 0, 5, 0), 4);
        due("was GRATE", x.field(0, 0, 5, 0), 5);
        due("now GRATE", x.kind(0, 0), 5);
        due("x too small", x.field(-1, 0, 1, 0), -2);
        due("x too large", x.field(4, 0, 1, 0), -2);
        due("y too small", x.field(0, -1, 1, 0), -2);
        due("y too large", x.field(0, 3, 1, 0), -2);
        due("kind too small", x.field(1, 0, -1, 0), -2);
        due("kind too large", x.field(1, 0, 6, 0), -2);
        due("way of a RAMP too small", x.field(1, 0, 4, -1), -2);
        due("way of a RAMP too large", x.field(1, 0, 4, 4), -2);
        for (int kind = 0; kind < 6; kind++) {
            due("way of another", x.field(1, 0, kind, 1), kind == 4 ? 0 : -2);
        }
        x.line(1, true);
        due("in a missing line", x.field(2, 1, 3, 0), 0);
        due("there again", x.field(2, 1, 2, 0), 3);
        due("missing", x.kind(2, 1), 0);
        x.line(1, false);
        due("back", x.kind(2, 1), 2);
    }

    private static void fieldsInUse() {
        promise = 2;
        CellarPushers x = drawn("mbO.");
        due("under the man", x.field(0, 0, 1, 0), -2);
        due("under a barrel", x.field(1, 0, 1, 0), -2);
        due("WANTED", x.field(2, 0, 2, 0), -2);
        due("free", x.field(3, 0, 1, 0), 1);
        CellarPushers ramp = drawn("m>.", "...");
        due("up the ramp", ramp.walk(1, 0), 1);
        ramp.walk(0, 0);
        ramp.field(1, 0, 4, WEST);
        due("against the turned ramp", ramp.step(EAST), -3);
        ramp.walk(2, 0);
        due("along the turned ramp", ramp.step(WEST), 0);
    }

    private static void lines() {
        promise = 3;
        CellarPushers x = drawn("...", ">go", "m..", ".b.", "..O");
        due("missing", x.line(1, true), 0);
        due("missing, too", x.line(1, true), 1);
        for (int i = 0; i < 3; i++) {
            due("WALL", x.kind(i, 1), 0);
        }
        due("back", x.line(1, false), 1);
        due("there already", x.line(1, false), 0);
        due("RAMP again", x.kind(0, 1), 4);
        due("GRATE again", x.kind(1, 1), 5);
        due("MARK again", x.kind(2, 1), 2);
        due("no such line", x.line(-1, true), -2);
        due("no such line, too", x.line(5, true), -2);
        for (int y = 2; y < 5; y++) {
            due("in use", x.line(y, true), -2);
            due("in use, without change", x.line(y, false), -2);
        }
        due("outside", new CellarPushers(8, 2).line(2, true), -2);
    }

    private static void barrels() {
        promise = 4;
        CellarPushers x = drawn("m.g>", "so#.", "....", "....");
        due("set", x.barrel(1, 0, true), 0);
        due("set again", x.barrel(1, 0, true), 1);
        due("on a GRATE", x.barrel(2, 0, true), 0);
        due("on a RAMP", x.barrel(3, 0, true), 0);
        due("on a SLIDE", x.barrel(0, 1, true), 0);
        due("on a MARK", x.barrel(1, 1, true), 0);
        due("on WALL", x.barrel(2, 1, true), -2);
        due("on the man", x.barrel(0, 0, true), -2);
        due("off WALL", x.barrel(2, 1, false), 0);
        due("off the man", x.barrel(0, 0, false), 0);
        due("off", x.barrel(1, 0, false), 1);
        due("off again", x.barrel(1, 0, false), 0);
        due("no such field", x.barrel(4, 0, true), -2);
        due("no such field, off", x.barrel(0, 4, false), -2);
        x.barrel(1, 0, true);
        for (int i = 0; i < 4; i++) {
            x.barrel(i, 2, true);
            x.barrel(i, 3, true);
        }
        due("12 of 13", x.count(1), 12);
        due("not the 13th", x.on(3, 3), 0);
        due("a 13th", x.barrel(3, 1, true), -2);
        due("with 12, where one is", x.barrel(1, 0, true), -2);
        due("with 12, off", x.barrel(1, 0, false), 1);
        due("a 12th again", x.barrel(3, 1, true), 0);
        CellarPushers line = drawn("..", "..");
        line.line(0, true);
        due("in a missing line", line.barrel(0, 0, true), -2);
        due("off it", line.barrel(0, 0, false), 0);
    }

    private static void men() {
        promise = 5;
        CellarPushers x = drawn(".#gb", "so>.");
        due("in", x.man(0, 0), 0);
        due("on WALL", x.man(1, 0), -2);
        due("on a GRATE", x.man(2, 0), -2);
        due("on a barrel", x.man(3, 0), -2);
        due("outside", x.man(0, 2), -2);
        due("outside, too", x.man(-1, 0), -2);
        due("still", x.count(8), 0);
        due("on a SLIDE", x.man(0, 1), 1);
        due("on a MARK", x.man(1, 1), 1);
        due("on a RAMP", x.man(2, 1), 1);
        due("where he is", x.man(2, 1), 1);
        due("there", x.count(8), 10);
        x.line(0, true);
        x.line(0, false);
        due("line was free of him", x.kind(0, 0), 1);
    }

    private static void wants() {
        promise = 6;
        CellarPushers x = drawn("#.os", ">g..");
        int[] due = {-2, -2, 0, -2, -2, 0};
        for (int i = 0; i < due.length; i++) {
            due("field " + i, x.want(i % 4, i / 4, true), due[i]);
        }
        due("again", x.want(2, 0, true), 1);
        due("no more", x.want(2, 0, false), 1);
        due("no more, again", x.want(2, 0, false), 0);
        due("FLOOR, no more", x.want(1, 0, false), -2);
        due("outside", x.want(4, 0, false), -2);
        x.line(0, true);
        due("missing", x.want(2, 0, true), -2);
        due("missing, no more", x.want(2, 0, false), -2);
        x.line(0, false);
        due("back", x.want(2, 0, true), 0);
        due("under a barrel", drawn("mB").want(1, 0, true), 1);
    }

    private static void steps() {
        promise = 7;
        CellarPushers x = drawn(".#...", "mb.hg", ">....", "bb...");
        due("no such way", x.step(-1), -2);
        due("no such way, too", x.step(4), -2);
        due("outside", x.step(WEST), -3);
        due("against a RAMP", x.step(SOUTH), -3);
        due("north", x.step(NORTH), 0);
        due("WALL", x.step(EAST), -3);
        x.step(SOUTH);
        due("push", x.step(EAST), 1);
        due("stuck at a barrel", x.step(EAST), -5);
        x.barrel(3, 1, false);
        due("onto a GRATE", x.step(EAST), 1);
        due("from a GRATE", x.step(EAST), -4);
        due("counted", x.count(3), 4);
        due("pushes", x.count(4), 2);
        CellarPushers ramp = drawn("mb..", "...<", "..<.");
        ramp.field(2, 0, 4, NORTH);
        due("barrel against a RAMP", ramp.step(EAST), -5);
        ramp.barrel(1, 0, false);
        ramp.barrel(2, 0, true);
        ramp.step(EAST);
        due("man against the barrel's RAMP", ramp.step(EAST), -4);
        due("barrel at the edge", drawn("mb").step(EAST), -5);
        due("onto a GRATE without a barrel", drawn("mg").step(EAST), -3);
        due("without a man", drawn("..").step(EAST), -2);
        due("without a man, no such way", drawn("..").step(9), -2);
        CellarPushers grate = drawn("mhb.");
        due("GRATE before stuck", grate.step(EAST), -4);
    }

    private static void rolling() {
        promise = 7;
        due("over slides", drawn("mbsss.").step(EAST), 4);
        due("to the wall", drawn("mbsss").step(EAST), 3);
        due("to a barrel", drawn("mbsssb").step(EAST), 3);
        due("down ramps", drawn("mb>>s.").step(EAST), 4);
        due("to a ramp against", drawn("mb>s<.").step(EAST), 2);
        due("to a grate", drawn("mbsgs.").step(EAST), 2);
        due("from a slide", drawn("m.....").step(EAST), 0);
        CellarPushers x = drawn("ms.ss.");
        x.barrel(1, 0, true);
        due("off a slide onto floor", x.step(EAST), 1);
        due("on to the end", x.step(EAST), 3);
        due("man goes one alone", x.count(8), 2);
        due("there", x.on(5, 0), 1);
        CellarPushers up = drawn("..", "s.", "s.", "b.", "m.");
        due("north", up.step(NORTH), 3);
        CellarPushers down = drawn("m", "b", "s", "v", ".");
        due("a width of 2 at least", down.kind(1, 0), 0);
        due("south", down.step(SOUTH), 3);
        due("west", drawn(".<sbm").step(WEST), 3);
    }

    private static void walks() {
        promise = 8;
        CellarPushers x = drawn("m.#.", "b...", "..<.", "...g");
        due("around", x.walk(3, 0), 5);
        due("there", x.count(8), 3);
        due("own field", x.walk(3, 0), 0);
        due("an act, too", x.count(6), 2);
        due("down", x.walk(1, 2), 4);
        due("round the RAMP", x.walk(3, 2), 4);
        due("along the RAMP", x.walk(2, 2), 1);
        due("steps", x.count(3), 14);
        due("no push", x.count(4), 0);
        due("WALL", x.walk(2, 0), -3);
        due("GRATE", x.walk(3, 3), -3);
        due("barrel", x.walk(0, 1), -3);
        due("outside", x.walk(4, 0), -2);
        due("acts", x.count(6), 5);
        due("without a man", drawn("..").walk(0, 0), -2);
        due("shut off", drawn("m#.").walk(2, 0), -3);
    }

    private static void pushes() {
        promise = 9;
        CellarPushers x = drawn(".....", ".m.b.", ".....", "..#..");
        due("east", x.push(3, 1, EAST), 1);
        due("man", x.count(8), 11);
        due("steps", x.count(3), 2);
        due("pushes", x.count(4), 1);
        due("one act", x.count(6), 1);
        due("stuck", x.push(4, 1, EAST), -5);
        due("from outside", x.push(4, 1, WEST), -3);
        due("south", x.push(4, 1, SOUTH), 1);
        due("no barrel", x.push(4, 1, SOUTH), -2);
        due("no such field", x.push(5, 1, SOUTH), -2);
        due("no such way", x.push(4, 2, 4), -2);
        due("no such way, too", x.push(4, 2, -1), -2);
        due("over slides", drawn("m..", "bss", "...").push(0, 1, EAST), -3);
        due("over slides", drawn("m....", ".bss.").push(1, 1, EAST), 3);
        CellarPushers grate = drawn("m...", ".h..", "....", ".b#.");
        due("on a GRATE", grate.push(1, 1, SOUTH), -4);
        due("walked not", grate.count(8), 0);
        due("from WALL", grate.push(1, 3, WEST), -3);
        due("without a man", drawn(".b.").push(1, 0, EAST), -2);
        CellarPushers ramp = drawn("m...", ".>..", "....");
        ramp.barrel(1, 1, true);
        due("against its RAMP", ramp.push(1, 1, WEST), -4);
        due("along its RAMP", ramp.push(1, 1, EAST), 1);
        due("walk is asked first", drawn("h.", "m.").push(0, 0, SOUTH), -3);
    }

    private static void cans() {
        promise = 10;
        CellarPushers x = drawn(".m...", ".bss.", ".....");
        due("south", x.can(1, 1, SOUTH), 1);
        due("east", x.can(1, 1, EAST), 3);
        due("north", x.can(1, 1, NORTH), 1);
        due("refused", x.can(0, 0, EAST), -2);
        due("no such way", x.can(1, 1, 4), -2);
        due("man", x.count(8), 1);
        due("barrel", x.on(1, 1), 1);
        due("steps", x.count(3), 0);
        due("acts", x.count(6), 0);
        x.push(1, 1, SOUTH);
        due("at the wall", x.can(1, 2, SOUTH), -5);
        due("not to be come to", x.can(1, 2, NORTH), -3);
        due("on a GRATE", drawn("mh.").can(1, 0, EAST), -4);
        x.undo();
        due("redo is left", x.can(1, 1, EAST), 3);
        due("redo", x.redo(), 0);
    }

    private static void undone() {
        promise = 11;
        CellarPushers x = drawn("m.b..", ".....");
        due("none", x.undo(), -2);
        x.step(EAST);
        x.push(2, 0, EAST);
        x.walk(0, 1);
        x.step(NORTH);
        due("step", x.undo(), 3);
        due("man", x.count(8), 8);
        due("walk", x.undo(), 2);
        due("man, too", x.count(8), 2);
        due("steps", x.count(3), 2);
        due("push", x.undo(), 1);
        due("barrel", x.on(2, 0), 1);
        due("barrel gone", x.on(3, 0), 0);
        due("pushes", x.count(4), 0);
        due("steps, too", x.count(3), 1);
        due("first", x.undo(), 0);
        due("no more", x.undo(), -2);
        due("at the beginning", x.count(8), 0);
        CellarPushers many = drawn("m");
        for (int i = 1; i <= 507; i++) {
            many.walk(0, 0);
        }
        due("all acts of a run", many.undo(), 506);
        CellarPushers done = drawn("mb.O");
        done.fewest();
        done.follow();
        due("follow", done.undo(), 0);
        due("its steps", done.count(3), 0);
        due("its pushes", done.count(4), 0);
        due("its barrel", done.on(1, 0), 1);
    }

    private static void undoneNoMore() {
        promise = 11;
        for (int change = 0; change < 10; change++) {
            CellarPushers x = drawn("m.b..", "..o..", ".....");
            x.step(EAST);
            x.step(WEST);
            x.undo();
            boolean refused = change >= 5;
            due("change", changed(x, change), refused ? -2 : change == 3 || change == 0 ? 1 : 0);
            due("acts left", x.count(6), refused ? 1 : 0);
            due("redo left", x.redo(), refused ? 0 : -2);
            due("undo left", x.undo(), refused ? 1 : -2);
            due("steps stay", x.count(3), 1);
        }
    }

    private static int changed(CellarPushers x, int change) {
        switch (change % 5) {
            case 0:
                return x.field(0, change < 5 ? 1 : 3, 1, 0);
            case 1:
                return x.line(change < 5 ? 2 : 3, false);
            case 2:
                return x.barrel(change < 5 ? 3 : 5, 0, false);
            case 3:
                return x.man(change < 5 ? 1 : 2, 0);
            default:
                return x.want(change < 5 ? 2 : 1, 1, false);
        }
    }

    private static void redone() {
        promise = 12;
        CellarPushers x = drawn("mb...", ".....");
        due("none", x.redo(), -2);
        x.step(EAST);
        x.step(EAST);
        x.walk(0, 0);
        x.undo();
        x.undo();
        x.undo();
        due("first", x.redo(), 2);
        due("barrel", x.on(2, 0), 1);
        due("second", x.redo(), 1);
        due("third", x.redo(), 0);
        due("man", x.count(8), 0);
        due("steps", x.count(3), 4);
        due("pushes", x.count(4), 2);
        due("no more", x.redo(), -2);
        x.undo();
        x.undo();
        due("refused", x.step(NORTH), -3);
        due("left by it", x.redo(), 1);
        due("anew", x.walk(1, 0), 1);
        due("none left", x.redo(), -2);
        due("undo", x.undo(), 1 + 1);
        due("redo of it", x.redo(), 0);
    }

    private static void kinds() {
        promise = 13;
        CellarPushers x = drawn("#.os", ">gb.");
        int[] due = {0, 1, 2, 3, 4, 5, 1, 1};
        for (int i = 0; i < due.length; i++) {
            due("field " + i, x.kind(i % 4, i / 4), due[i]);
        }
        due("outside", x.kind(4, 0), -2);
        due("outside, too", x.kind(0, -1), -2);
        due("far outside", x.kind(Integer.MAX_VALUE, Integer.MIN_VALUE), -2);
        x.line(0, true);
        due("missing", x.kind(2, 0), 0);
    }

    private static void whatIsOn() {
        promise = 14;
        CellarPushers x = drawn(".mbO", "BGH#");
        int[] due = {0, 2, 1, 4, 5, 4, 5, 0};
        for (int i = 0; i < due.length; i++) {
            due("field " + i, x.on(i % 4, i / 4), due[i]);
        }
        x.man(3, 0);
        due("man on a WANTED one", x.on(3, 0), 6);
        due("he is gone", x.on(1, 0), 0);
        due("outside", x.on(-1, 0), -2);
        due("outside, too", x.on(0, 2), -2);
    }

    private static void fars() {
        promise = 15;
        CellarPushers x = drawn("m.#.", ".b..", ".<..", ".g#.");
        due("own", x.far(0, 0), 0);
        due("next", x.far(1, 0), 1);
        due("barrel", x.far(1, 1), -1);
        due("against the RAMP", x.far(1, 2), -1);
        due("behind it", x.far(3, 3), -1);
        due("GRATE", x.far(1, 3), -1);
        due("WALL", x.far(2, 0), -1);
        due("corner", x.far(0, 3), 3);
        due("outside", x.far(0, 4), -2);
        due("nothing done", x.count(6), 0);
        due("without a man", drawn("..").far(0, 0), -2);
        due("without a man and field", drawn("..").far(9, 0), -2);
    }

    private static void doneCellars() {
        promise = 16;
        due("all", drawn("B.H").isDone(), true);
        due("one not", drawn("B.G").isDone(), false);
        due("none", drawn("b.").isDone(), true);
        due("more barrels", drawn("Bbb").isDone(), true);
        CellarPushers x = drawn("mbO");
        due("before", x.isDone(), false);
        x.step(EAST);
        due("after", x.isDone(), true);
        x.undo();
        due("undone", x.isDone(), false);
    }

    private static void readyCellars() {
        promise = 17;
        due("ready", drawn("mbO").isReady(), true);
        due("done, too", drawn("mB").isReady(), true);
        due("no man", drawn(".bO").isReady(), false);
        due("no barrel", drawn("m.O").isReady(), false);
        due("none at all", drawn("m.o").isReady(), false);
        due("more barrels", drawn("mbbO").isReady(), false);
        due("more WANTED", drawn("mbOG").isReady(), false);
        due("many", drawn("mbbbbbbb", "OOOOOOO.").isReady(), true);
    }

    private static void deadFields() {
        promise = 18;
        CellarPushers x = drawn("......", ".....O", "......");
        due("WANTED", x.dead(5, 1), 0);
        due("row", x.dead(1, 1), 0);
        due("west wall", x.dead(0, 1), 1);
        due("corner", x.dead(0, 0), 1);
        due("north wall", x.dead(3, 0), 1);
        due("above it", x.dead(5, 0), 1);
        due("outside", x.dead(6, 0), -2);
        due("WALL", drawn("#O").dead(0, 0), 0);
        due("no WANTED", drawn("...").dead(1, 0), 1);
        CellarPushers line = drawn("...", "..O", "...");
        line.line(0, true);
        due("missing", line.dead(1, 0), 0);
        CellarPushers slide = drawn(".bsOs.");
        due("over it, may stop", slide.dead(1, 0), 0);
        due("GRATE before", drawn("g.O").dead(1, 0), 1);
        due("on a GRATE", drawn(".gO").dead(1, 0), 1);
        due("on a WANTED GRATE", drawn(".G.").dead(1, 0), 0);
        due("onto a GRATE", drawn("..G").dead(1, 0), 0);
        due("against its RAMP", drawn(".<O").dead(1, 0), 1);
        due("along its RAMP", drawn(".>O").dead(1, 0), 0);
        due("before it a RAMP of any way", drawn("<.O").dead(1, 0), 0);
        due("against a RAMP", drawn("..<O").dead(1, 0), 1);
        due("other barrels count not", drawn("b.bO").dead(1, 0), 0);
    }

    private static void heldBarrels() {
        promise = 19;
        CellarPushers x = drawn("bb...b", "..b...", ".bb.h.", "....bb");
        due("corner", x.held(0, 0), 1);
        due("at a held one", x.held(1, 0), 1);
        due("other corner", x.held(5, 0), 1);
        due("free", x.held(2, 1), 0);
        due("GRATE", x.held(4, 2), 1);
        due("under a held one", x.held(4, 3), 1);
        due("in the corner", x.held(5, 3), 1);
        due("three of a square", x.held(1, 2), 0);
        due("no barrel", x.held(3, 0), 0);
        due("outside", x.held(6, 0), -2);
        CellarPushers square = drawn("....", ".bb.", ".bb.", "....");
        due("square", square.held(1, 1), 1);
        square.barrel(2, 2, false);
        due("no square", square.held(1, 1), 0);
        CellarPushers chain = drawn(".....", ".#b..", "..bb.", "...#.", ".....");
        due("holding one another", chain.held(2, 1), 1);
        due("holding one another, too", chain.held(3, 2), 1);
        due("in the midst", chain.held(2, 2), 1);
        chain.field(3, 3, 1, 0);
        due("no longer", chain.held(2, 1), 0);
        CellarPushers line = drawn("...", ".b.", "...");
        line.line(0, true);
        due("a missing line on one side", line.held(1, 1), 0);
        line.barrel(1, 1, false);
        line.barrel(0, 1, true);
        due("and the edge", line.held(0, 1), 1);
    }

    private static void spoiltCellars() {
        promise = 20;
        due("not ready", drawn(".bO").spoilt(), -2);
        due("well", drawn("mb.O").spoilt(), 0);
        due("dead", drawn("b.mO").spoilt(), 1);
        due("held in a square", drawn("......", ".bb...", ".bbm..", "......", "OOOO..").spoilt(), 2);
        due("dead before held", drawn("b.....", ".bb...", ".bbm..", "......", "OOOOO.").spoilt(), 1);
        due("held, but WANTED", drawn("......", ".BB...", ".BBm..", "......").spoilt(), 0);
        due("one of them WANTED", drawn("......", ".bB...", ".BBm..", "O.....").spoilt(), 2);
        due("done", drawn("Bm").spoilt(), 0);
    }

    private static void whys() {
        promise = 21;
        CellarPushers x = drawn("......", ".bB...", ".Bbm..", "O.O...");
        due("before the first", x.why(), -1);
        due("held", x.spoilt(), 2);
        due("first not WANTED", x.why(), 9);
        x.barrel(1, 1, false);
        due("refused", x.spoilt(), -2);
        due("as before", x.why(), 9);
        x.barrel(5, 0, true);
        due("dead", x.spoilt(), 1);
        due("corner", x.why(), 5);
        x.barrel(5, 0, false);
        due("as it was then", x.why(), 5);
        x.barrel(4, 2, true);
        due("well", x.spoilt(), 0);
        due("neither", x.why(), -1);
        CellarPushers two = drawn(".m.b", "b...", "..OO");
        due("two dead", two.spoilt(), 1);
        due("the least", two.why(), 3);
    }

    private static void lows() {
        promise = 22;
        due("not ready", drawn("b.O").low(), -2);
        due("there", drawn("mBB").low(), 0);
        due("one", drawn("mb..O").low(), 3);
        due("none", drawn("b.m.O").low(), -1);
        due("crossed", drawn("......", "mb.b..", "....OO").low(), 7);
        CellarPushers x = drawn("........", "m.bb....", "........", ".O....O.", "........");
        due("pairs", x.low(), 3 + 5);
        due("both to one", drawn("mbb..O#O").low(), -1);
        CellarPushers twelve = drawn("........", ".bbbbbb.", ".bbbbbb.", "........", ".OOOOOO.", ".OOOOOO.", "m.......",
                "........");
        due("twelve", twelve.low(), 12 * 3);
        due("not the nearest for each", drawn("........", "m.b.b...", "........", "........").low(), -2);
        CellarPushers greedy = drawn("m......", "..b.b..", ".......", ".......");
        greedy.field(5, 1, 2, 0);
        greedy.want(5, 1, true);
        greedy.field(3, 1, 2, 0);
        greedy.want(3, 1, true);
        due("greedy", greedy.low(), 2);
        due("barrels are not in the way", drawn("mbb..OO").low(), 4 + 4);
    }

    private static void prices() {
        promise = 23;
        CellarPushers x = drawn(".....#", ".b...#", "..s.g.", "....<.");
        due("itself", x.price(0, 0, 0, 0), 0);
        due("east", x.price(1, 1, 3, 1), 2);
        due("south and east", x.price(1, 1, 3, 2), 2);
        due("on a GRATE", x.price(4, 2, 4, 3), -1);
        due("onto a GRATE", x.price(2, 2, 4, 2), 2);
        due("no way back", x.price(0, 1, 1, 1), -1);
        due("from WALL", x.price(5, 0, 0, 0), -2);
        due("to WALL", x.price(0, 0, 5, 1), -2);
        due("from outside", x.price(6, 0, 0, 0), -2);
        due("to outside", x.price(0, 0, 0, 4), -2);
        due("both outside", x.price(-1, 0, -1, 0), -2);
        due("each field of a slide", drawn("..sss..").price(1, 0, 3, 0), 1);
        due("its end", drawn("..sss..").price(1, 0, 5, 0), 1);
        due("behind its end", drawn("..sss..").price(1, 0, 6, 0), 2);
        CellarPushers line = drawn("...", "...", "...");
        line.line(0, true);
        due("missing", line.price(0, 0, 0, 0), -2);
    }

    private static void fewestPushes() {
        promise = 24;
        CellarPushers x = drawn(".....", ".b...", "m....", "...O.", ".....");
        due("fewest", x.fewest(), 4);
        plan(x, "0110122");
        CellarPushers row = drawn("mb.O");
        due("row", row.fewest(), 2);
        plan(row, "11");
        due("nothing done", row.count(8), 0);
        due("none", drawn("b.m.O").fewest(), -1);
        CellarPushers done = drawn("m.B", "...");
        due("done", done.fewest(), 0);
        plan(done, "");
        due("stuck by one another", drawn("mb.b.OO").fewest(), -1);
        due("slide", drawn("mbsssO").fewest(), 1);
        due("stops on a MARK", drawn("mbsOs").fewest(), 1);
        due("rolls on from a SLIDE only", drawn("mb.sO").fewest(), 2);
        CellarPushers more = drawn("m...", "b...", "O...", "#.##");
        due("straight", more.fewest(), 1);
    }

    private static void plan(CellarPushers x, String ways) {
        due("steps", x.steps(), ways.length());
        for (int i = 0; i < ways.length(); i++) {
            due("plan(" + i + ")", x.plan(i), ways.charAt(i) - '0');
        }
    }

    private static void refusedSearches() {
        promise = 24;
        CellarPushers x = drawn("......", ".b....", "m.....", "....O.", "......");
        due("30 fields", x.fewest(), 5);
        int steps = x.steps();
        CellarPushers large = drawn("......#", ".b.....", "m.....#", "....O.#", "......#");
        due("31 fields", large.fewest(), -2);
        x.barrel(3, 3, true);
        due("not ready", x.fewest(), -2);
        due("as before", x.steps(), steps);
        CellarPushers three = drawn("......", "mb.O..", "mb.O..", ".b.O..", "......");
        due("3 barrels", three.fewest(), 6);
        CellarPushers four = drawn("......", ".b.O..", "mb.O..", ".bbO..", "...O..");
        due("4 barrels", four.fewest(), -2);
        due("without a man", drawn("bO").fewest(), -2);
        large.line(0, true);
        due("fewer by a missing line", large.fewest(), -1);
    }

    private static void planSteps() {
        promise = 25;
        CellarPushers x = drawn("mb..O");
        due("none yet", x.steps(), 0);
        x.fewest();
        due("three", x.steps(), 3);
        x.field(2, 0, 0, 0);
        x.barrel(3, 0, true);
        due("changes leave it", x.steps(), 3);
        x.barrel(3, 0, false);
        due("none now", x.fewest(), -1);
        due("none left", x.steps(), 0);
    }

    private static void planWays() {
        promise = 26;
        CellarPushers x = drawn(".m..", "b...", "...O");
        due("none yet", x.plan(0), -2);
        due("fewest", x.fewest(), -1);
        due("none", x.plan(0), -2);
        CellarPushers two = drawn("....", ".b..", "....", "m.O.", "....");
        due("fewest, too", two.fewest(), 3);
        due("before it", two.plan(-1), -2);
        due("least way first", two.plan(0), NORTH);
        due("last", two.plan(two.steps() - 1) >= 0, true);
        due("after it", two.plan(two.steps()), -2);
        due("far after it", two.plan(Integer.MAX_VALUE), -2);
    }

    private static void followed() {
        promise = 27;
        CellarPushers x = drawn("mb..O");
        due("no plan", x.follow(), -2);
        x.fewest();
        due("three", x.follow(), 3);
        due("done", x.isDone(), true);
        due("one act", x.count(6), 1);
        due("pushes", x.count(4), 3);
        due("not again", x.follow(), -2);
        due("stays", x.count(8), 3);
        due("undo", x.undo(), 0);
        x.step(EAST);
        x.undo();
        due("again", x.follow(), 3);
        due("no redo", x.redo(), -2);
        x.man(0, 0);
        x.barrel(4, 0, false);
        due("without the barrel", x.follow(), 3);
        due("walked", x.count(4), 3);
        x.man(0, 0);
        x.barrel(2, 0, true);
        x.barrel(4, 0, true);
        due("not all", x.follow(), -2);
        due("none done", x.count(8), 0);
        due("none pushed", x.on(2, 0), 1);
    }

    private static void told() {
        promise = 28;
        CellarPushers x = drawn("m.");
        due("first", x.tell(0), 1);
        due("second", x.tell(3), 2);
        due("no such way", x.tell(4), -2);
        due("no such way, too", x.tell(-1), -2);
        for (int i = 3; i <= 400; i++) {
            due("more", x.tell(i % 4), i);
        }
        due("full", x.tell(0), -2);
        due("as many", x.count(7), 400);
    }

    private static void copied() {
        promise = 29;
        CellarPushers x = drawn("mb..O");
        x.tell(0);
        due("no plan", x.copy(), 0);
        due("empty", x.count(7), 0);
        x.tell(2);
        x.fewest();
        due("plan", x.copy(), 3);
        due("its way", x.forge(0, 0), 1);
        due("the plan stays", x.plan(0), 1);
        due("three", x.count(7), 3);
        due("a way more", x.tell(0), 4);
    }

    private static void longPlan() {
        promise = 24;
        CellarPushers x = LongPlan.cellar();
        due("pushes", x.fewest(), LongPlan.PUSHES);
        due("steps", x.steps(), LongPlan.STEPS);
        promise = 26;
        due("the last way", x.plan(LongPlan.STEPS - 1) >= 0, true);
        due("behind it", x.plan(LongPlan.STEPS), -2);
        promise = 29;
        x.tell(2);
        due("copy of more than 400", x.copy(), -2);
        due("the tape stays", x.count(7), 1);
        promise = 27;
        due("followed", x.follow(), LongPlan.STEPS);
        due("done", x.isDone(), true);
        due("its pushes", x.count(4), LongPlan.PUSHES);
    }

    private static void forged() {
        promise = 30;
        CellarPushers x = drawn("m.");
        due("none", x.forge(0, 0), -2);
        x.tell(1);
        x.tell(3);
        due("another", x.forge(0, 2), 1);
        due("the same", x.forge(0, 2), 2);
        due("second", x.forge(1, 0), 3);
        due("behind", x.forge(2, 0), -2);
        due("before", x.forge(-1, 0), -2);
        due("no such way", x.forge(0, 4), -2);
        due("no such way, too", x.forge(0, -1), -2);
        due("still", x.forge(0, 0), 2);
    }

    private static void hushed() {
        promise = 31;
        CellarPushers x = drawn("m.");
        due("none", x.hush(), 0);
        x.tell(1);
        x.tell(1);
        due("two", x.hush(), 2);
        due("empty", x.count(7), 0);
        due("first again", x.tell(1), 1);
        x.hush();
        due("none to be forged", x.forge(0, 1), -2);
    }

    private static void checked() {
        promise = 32;
        CellarPushers x = drawn("mb.O.");
        due("empty, not done", x.check(), 0);
        x.tell(EAST);
        due("one", x.check(), 1);
        x.tell(EAST);
        due("done", x.check(), 1002);
        x.tell(EAST);
        due("done no more", x.check(), 3);
        x.tell(EAST);
        due("stuck", x.check(), 3);
        due("nothing done", x.count(8) + x.count(3) + x.count(6), 0);
        x.hush();
        x.want(3, 0, false);
        due("empty, done", x.check(), 1000);
        due("without a man", drawn("..").check(), -2);
        x.tell(WEST);
        due("not the first", x.check(), 0);
    }

    private static void counts() {
        promise = 33;
        CellarPushers x = drawn("mb.O", "s>g#", "....");
        x.tell(1);
        int[] first = {11, 1, 1, 0, 0, 7, 0, 1, 0};
        for (int what = 0; what < first.length; what++) {
            due("count(" + what + ")", x.count(what), first[what]);
        }
        x.step(EAST);
        x.walk(0, 2);
        int[] then = {11, 1, 1, 4, 1, 8, 2, 1, 16};
        for (int what = 0; what < then.length; what++) {
            due("then count(" + what + ")", x.count(what), then[what]);
        }
        x.undo();
        due("undone", x.count(3), 1);
        x.field(1, 2, 0, 0);
        due("steps stay", x.count(3), 1);
        due("pushes stay", x.count(4), 1);
        due("-1", x.count(-1), -2);
        due("9", x.count(9), -2);
        due("without a man", drawn("..").count(5), 0);
        due("his number", drawn("..").count(8), -1);
    }

    /** Free, but nothing may break. */
    private static void callsBeyondTheEnd() {
        promise = 0;
        CellarPushers x = drawn("m...", "....");
        for (int i = 0; i < 3000; i++) {
            x.step(i % 2 == 0 ? EAST : WEST);
        }
        for (int i = 0; i < 3000; i++) {
            x.undo();
        }
        due("alive", x.kind(0, 0), 1);
    }
}
