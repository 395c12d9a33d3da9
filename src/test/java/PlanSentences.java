/** The sentences of promises 24 to 33: plans, the tape, and what is counted. */
final class PlanSentences {
    private static final int NORTH = Drawing.NORTH;
    private static final int EAST = Drawing.EAST;
    private static final int SOUTH = Drawing.SOUTH;
    private static final int WEST = Drawing.WEST;
    private static final int MOST_TOLD = 400;
    private static final int[] NO_PLACES = {-1, Integer.MIN_VALUE, Integer.MAX_VALUE};

    private final Sentences told;

    PlanSentences(Sentences told) {
        this.told = told;
    }

    void test() {
        fewest();
        noFewest();
        refusedSearches();
        plans();
        leastPlans();
        emptyPlans();
        leftPlans();
        planSteps();
        planWays();
        follows();
        followsInVain();
        tells();
        copies();
        copiesAtTheLimit();
        forges();
        hushes();
        checks();
        checksOfLongTapes();
        counts();
        countsOfWalks();
    }

    private void plan(CellarPushers x, String ways) {
        told.due("steps", x.steps(), ways.length());
        for (int i = 0; i < ways.length(); i++) {
            told.due("plan(" + i + ")", x.plan(i), ways.charAt(i) - '0');
        }
        told.due("plan, behind its end", x.plan(ways.length()), -2);
    }

    private void fewest() {
        told.in("Promise 24");
        told.quote("The least number of pushes in rows of steps that make the cellar DONE;");
        told.due("one", Drawing.drawn("mbO").fewest(), 1);
        told.due("six", Drawing.drawn("mb.....O").fewest(), 6);
        told.due("one over slides", Drawing.drawn("mbsssssO").fewest(), 1);
        told.due("to the other of two", Drawing.drawn("mb.BO").fewest(), -1);
        told.due("two barrels", Drawing.drawn(".....", "mb.BO", ".....").fewest(), 3);
        told.due("onto a GRATE", Drawing.drawn("mb.G").fewest(), 2);
        told.due("past a GRATE", Drawing.drawn("mb.gO").fewest(), -1);
        told.due("along a RAMP", Drawing.drawn("mb>.O").fewest(), 2);
        told.due("one off its place, for another", Drawing.drawn("......", "..Os..", "..Bb.m", "......").fewest(), 2);
        told.due("stopped by another barrel", Drawing.drawn("......", "mbssBs", "...O..").fewest(), 2);
        told.due("DONE", Drawing.drawn("mB").fewest(), 0);
        told.due("DONE, all three", Drawing.drawn("BHB", "m..").fewest(), 0);
        told.due("three barrels", Drawing.drawn("mb.O.", ".b.O.", ".b.O.", ".....").fewest(), 6);
        told.due("to the first field", Drawing.drawn("O.bm").fewest(), 2);
        told.due("to the first field, over slides", Drawing.drawn("Ossbm").fewest(), 1);
        told.due("to the first field that is no WALL", Drawing.drawn("####", "#O.m", "#.b.", "#...").fewest(), 2);
        told.due("to the last field", Drawing.drawn("....", "mb.O").fewest(), 2);
        told.due("to the last of 64", lastOf64().fewest(), 6);
        told.due("nothing is done", Drawing.drawn("mbO").isDone(), false);
    }

    private static CellarPushers lastOf64() {
        CellarPushers x = new CellarPushers(8, 8);
        for (int i = 0; i < 8; i++) {
            x.field(i, 7, i == 7 ? 2 : 1, 0);
        }
        x.want(7, 7, true);
        x.barrel(1, 7, true);
        x.man(0, 7);
        return x;
    }

    private void noFewest() {
        told.quote("-1 when there are none such.");
        told.due("in a corner", Drawing.drawn("bm.", "..O").fewest(), -1);
        told.due("at an edge", Drawing.drawn(".b.", "m..", "..O").fewest(), -1);
        told.due("shut off", Drawing.drawn("...", ".b.", "...", "###", "mO.").fewest(), -1);
        told.due("the man shut off", Drawing.drawn("m#..", "##bO").fewest(), -1);
        told.due("one behind the other", Drawing.drawn("mbb.OO").fewest(), -1);
        CellarPushers missing = Drawing.drawn("....", "mb.O", "....");
        missing.line(0, true);
        missing.line(2, true);
        told.due("lines that are MISSING", missing.fewest(), 2);
        CellarPushers cut = Drawing.drawn(".m.", ".b.", "...", "...", ".O.");
        cut.line(3, true);
        told.due("cut off by one", cut.fewest(), -1);
        cut.line(3, false);
        told.due("no more", cut.fewest(), 3);
    }

    /** As many fields that are no WALL, in a cellar of eight by eight, with a row of seven first. */
    private static CellarPushers wide(int open) {
        CellarPushers x = new CellarPushers(8, 8);
        for (int i = 0; i < open; i++) {
            x.field(i % 7, i / 7, i == 6 ? 2 : 1, 0);
        }
        x.man(0, 0);
        x.barrel(1, 0, true);
        x.want(6, 0, true);
        return x;
    }

    private void refusedSearches() {
        told.quote("-2 when it is not READY, there are more than 3 barrels, or more than 30 fields that are no WALL.");
        told.due("no man", Drawing.drawn(".bO").fewest(), -2);
        told.due("no barrel", Drawing.drawn("m.O").fewest(), -2);
        told.due("none at all", Drawing.drawn("m..").fewest(), -2);
        told.due("a barrel more", Drawing.drawn("mbbO").fewest(), -2);
        told.due("a barrel less", Drawing.drawn("mbOO").fewest(), -2);
        told.due("3 barrels", Drawing.drawn("mbO", ".bO", ".bO").fewest(), 3);
        told.due("4 barrels", Drawing.drawn("mbO", ".bO", ".bO", ".bO").fewest(), -2);
        told.due("4 barrels, DONE", Drawing.drawn("mB", "BB", "B.").fewest(), -2);
        told.due("3 barrels, DONE", Drawing.drawn("mB", "BB", "..").fewest(), 0);
        told.due("29 fields", wide(29).fewest(), 5);
        told.due("30 fields", wide(30).fewest(), 5);
        told.due("31 fields", wide(31).fewest(), -2);
        told.due("31 fields, DONE", Drawing.drawn("mB......", "........", "........", ".......#").fewest(), -2);
        CellarPushers x = wide(36);
        told.due("36 fields", x.fewest(), -2);
        x.line(4, true);
        told.due("29 fields and a MISSING line", x.fewest(), 5);
        x.field(7, 0, 3, 0);
        told.due("30 and a MISSING line", x.fewest(), 5);
        x.field(7, 1, 5, 0);
        told.due("31 and a MISSING line", x.fewest(), -2);
        x.field(7, 1, 0, 0);
        told.due("30 again", x.fewest(), 5);
        told.due("30 fields and 3 barrels", Drawing.drawn("......", ".bb.O.", ".b..O.", "m...O.", "......").fewest(), 10);
    }

    private void plans() {
        told.quote("THE PLAN is, of rows with so few pushes, of those with the fewest steps,");
        CellarPushers row = Drawing.drawn("mb.O");
        row.fewest();
        plan(row, "11");
        CellarPushers round = Drawing.drawn("...m.", "..sbs", ".O...");
        told.due("fewer pushes, though more steps", round.fewest(), 2);
        plan(round, "1230332");
        CellarPushers walk = Drawing.drawn("m....", "..b..", ".....", "...O.", ".....");
        told.due("pushes", walk.fewest(), 3);
        told.due("follow", walk.follow(), walk.steps());
        told.due("pushes of it", walk.count(4), 3);
        told.due("isDone", walk.isDone(), true);
        CellarPushers winding = Drawing.drawn("m......#", "######.#", "#......#", "#.######", "#b......", "#....###",
                "#O######");
        told.due("pushes at the end of a long walk", winding.fewest(), 2);
        plan(winding, "1111112233333222");
        CellarPushers longest = LongPlan.cellar();
        PlainCellar plain = LongPlan.plain();
        told.due("pushes of a long one", longest.fewest(), plain.fewest());
        told.due("its steps", longest.steps(), plain.steps());
        for (int i = 0; i < plain.steps(); i++) {
            told.due("plan(" + i + ")", longest.plan(i), plain.plan(i));
        }
        told.due("all that can be done", longest.follow(), LongPlan.STEPS);
        told.due("its pushes", longest.count(4), LongPlan.PUSHES);
        told.due("DONE", longest.isDone(), true);
    }

    private void leastPlans() {
        told.quote("the least one by its first way that differs;");
        CellarPushers east = Drawing.drawn("m...", "....", "..bO", "....");
        east.fewest();
        plan(east, "1221");
        CellarPushers west = Drawing.drawn("...m", "....", "Ob..", "....");
        west.fewest();
        plan(west, "2233");
        CellarPushers north = Drawing.drawn("....", "....", ".bO.", "m...");
        north.fewest();
        plan(north, "01");
        CellarPushers both = Drawing.drawn("....", ".O..", ".b..", "....", "...m");
        both.fewest();
        plan(both, "0330");
        String[][] corners = {{"m..", ".b.", "..O"}, {"..m", ".b.", "O.."}, {"..O", ".b.", "m.."}, {"O..", ".b.", "..m"}};
        String[] ways = {"12321", "23032", "01210", "03230"};
        for (int i = 0; i < corners.length; i++) {
            CellarPushers corner = Drawing.drawn(corners[i]);
            told.due("to a corner", corner.fewest(), 2);
            plan(corner, ways[i]);
        }
        CellarPushers ends = Drawing.drawn(".mbO", ".bO.");
        told.due("with another end by other ways", ends.fewest(), 2);
        plan(ends, "13321");
        CellarPushers pushes = Drawing.drawn("....", ".b..", "m...", "O...");
        told.due("with other pushes by other ways", pushes.fewest(), 3);
        plan(pushes, "00122123");
        CellarPushers two = Drawing.drawn("..O..", ".....", "..b..", ".m.b.", "...O.", ".....");
        told.due("two barrels", two.fewest(), 3);
        plan(two, "100122");
    }

    private void emptyPlans() {
        told.quote("it has no ways when the answer is -1 or 0;");
        CellarPushers x = Drawing.drawn("mb.O", "....");
        told.due("two", x.fewest(), 2);
        told.due("follow", x.follow(), 2);
        told.due("steps, done", x.steps(), 2);
        told.due("none needed", x.fewest(), 0);
        plan(x, "");
        x.undo();
        told.due("two again", x.fewest(), 2);
        x.field(2, 0, 0, 0);
        told.due("steps, still", x.steps(), 2);
        told.due("none such", x.fewest(), -1);
        plan(x, "");
        told.due("follow of none", x.follow(), -2);
        told.due("copy of none", x.copy(), 0);
        CellarPushers dead = Drawing.drawn("mb.O", "....");
        dead.fewest();
        dead.barrel(1, 0, false);
        dead.barrel(0, 1, true);
        told.due("DEAD", dead.fewest(), -1);
        plan(dead, "");
    }

    private void leftPlans() {
        told.quote("a refused call leaves it, and changes of the cellar do.");
        CellarPushers x = Drawing.drawn("mb.O..", "......", "oo....", "......", "......");
        told.due("two", x.fewest(), 2);
        x.want(0, 2, true);
        told.due("not READY", x.fewest(), -2);
        plan(x, "11");
        x.barrel(3, 2, true);
        told.due("READY, another", x.fewest(), 2 + 3);
        int steps = x.steps();
        CellarPushers some = Drawing.drawn("mb.O..#", "......#", "oooo..#", "......#", "......#");
        some.fewest();
        some.field(6, 0, 1, 0);
        told.due("31 fields", some.fewest(), -2);
        plan(some, "11");
        some.field(6, 0, 0, 0);
        for (int i = 0; i < 3; i++) {
            some.barrel(1 + i, 3, true);
            some.want(1 + i, 2, true);
        }
        told.due("4 barrels", some.fewest(), -2);
        plan(some, "11");
        x.step(SOUTH);
        x.walk(0, 1);
        x.push(1, 0, EAST);
        x.undo();
        x.redo();
        x.man(5, 4);
        x.barrel(4, 4, true);
        x.line(3, true);
        x.field(4, 1, 4, 2);
        x.want(1, 2, true);
        told.due("steps, after changes", x.steps(), steps);
    }

    private void planSteps() {
        told.in("Promise 25");
        told.quote("How many steps THE PLAN has.");
        CellarPushers x = Drawing.drawn(".....", "mb..O", ".....");
        told.due("steps, no plan", x.steps(), 0);
        x.fewest();
        told.due("steps", x.steps(), 3);
        x.walk(0, 0);
        told.due("steps, walked", x.steps(), 3);
        told.due("three pushes", x.fewest(), 3);
        told.due("steps, with a walk", x.steps(), 4);
        told.due("new", new CellarPushers(2, 2).steps(), 0);
    }

    private void planWays() {
        told.in("Promise 26");
        told.quote("The i-th way of THE PLAN, from 0 on; -2 when there is no such one.");
        CellarPushers x = Drawing.drawn(".....", "mb...", "..O..");
        told.due("plan(0), none", x.plan(0), -2);
        told.due("two pushes", x.fewest(), 2);
        plan(x, "1012");
        for (int i : NO_PLACES) {
            told.due("plan(" + i + ")", x.plan(i), -2);
        }
        told.due("plan(400)", x.plan(400), -2);
        x.field(0, 2, 0, 0);
        told.due("plan(3), changed", x.plan(3), 2);
    }

    private void follows() {
        told.in("Promise 27");
        told.quote("All steps of THE PLAN are done from where all is now: how many.");
        CellarPushers x = Drawing.drawn(".....", "mb..O", ".....");
        x.fewest();
        told.due("follow", x.follow(), 3);
        told.due("isDone", x.isDone(), true);
        told.due("steps", x.count(3), 3);
        told.due("pushes", x.count(4), 3);
        x.walk(0, 0);
        told.due("follow, from elsewhere", x.follow(), 3);
        told.due("man", x.count(8), 3);
        told.due("pushes, none more", x.count(4), 3);
        x.walk(0, 2);
        x.barrel(2, 2, true);
        told.due("follow, another barrel", x.follow(), 3);
        told.due("pushes, two more", x.count(4), 5);
        told.due("barrel", x.on(4, 2), 1);
        told.quote("(One act for undo().)");
        told.due("acts", x.count(6), 1);
        told.due("undo", x.undo(), 0);
        told.due("barrel, again", x.on(2, 2), 1);
        told.due("man, again", x.count(8), 16);
        told.due("pushes, again", x.count(4), 3);
        told.due("redo", x.redo(), 0);
        told.due("barrel, once more", x.on(4, 2), 1);
    }

    private void followsInVain() {
        told.quote("-2 when one of them can not be done, or it has none; then none is done.");
        told.due("follow, no plan", Drawing.drawn("mb.O").follow(), -2);
        told.due("follow, new", new CellarPushers(2, 2).follow(), -2);
        for (int wall = 2; wall <= 4; wall++) {
            CellarPushers x = Drawing.drawn(".....", "mb..O", ".....");
            x.fewest();
            x.want(4, 1, false);
            x.field(wall, 1, 0, 0);
            told.due("follow, WALL at " + wall, x.follow(), -2);
            told.due("man", x.count(8), 8);
            told.due("barrel", x.on(1, 1), 1);
            told.due("steps", x.count(3) + x.count(4), 0);
            told.due("acts", x.count(6), 0);
        }
        CellarPushers done = Drawing.drawn("mBo");
        told.due("none needed", done.fewest(), 0);
        told.due("follow, none", done.follow(), -2);
        CellarPushers last = Drawing.drawn("mb..O");
        last.fewest();
        last.barrel(4, 0, true);
        told.due("follow, a barrel at its end", last.follow(), -2);
        last.barrel(1, 0, false);
        told.due("follow, nothing to be pushed but that", last.follow(), 3);
    }

    private void tells() {
        told.in("Promise 28");
        told.quote("A way more on the TAPE: how many it has.");
        CellarPushers x = new CellarPushers(2, 2);
        for (int i = 1; i <= MOST_TOLD; i++) {
            told.due("tell", x.tell((i - 1) % 4), i);
        }
        told.quote("-2 when there is no such way, or it has 400.");
        for (int way = -1; way <= 4; way++) {
            told.due("tell(" + way + "), the 401st", x.tell(way), -2);
        }
        told.due("count(7)", x.count(7), MOST_TOLD);
        told.due("its last way", x.forge(399, 0), 3);
        x.hush();
        for (int way : new int[] {-1, 4, Integer.MIN_VALUE, Integer.MAX_VALUE}) {
            told.due("tell(" + way + ")", x.tell(way), -2);
        }
        told.due("count(7), none", x.count(7), 0);
        told.due("tell again", x.tell(3), 1);
    }

    private void copies() {
        told.in("Promise 29");
        told.quote("THE PLAN's ways (or none) come onto the TAPE in place of what it had: how many.");
        CellarPushers x = Drawing.drawn(".....", "mb...", "..O..");
        told.due("copy, no plan", x.copy(), 0);
        x.tell(0);
        told.due("copy, no plan, too", x.copy(), 0);
        told.due("count(7)", x.count(7), 0);
        x.fewest();
        x.tell(0);
        told.due("copy", x.copy(), 4);
        told.due("copy, again", x.copy(), 4);
        int[] due = {1, 0, 1, 2};
        for (int i = 0; i < due.length; i++) {
            told.due("forge", x.forge(i, 3), due[i]);
            told.due("plan, as it was", x.plan(i), due[i]);
        }
        told.due("forge, behind it", x.forge(4, 0), -2);
        told.due("tell, behind it", x.tell(0), 5);
        while (x.count(7) < 350) {
            x.tell(1);
        }
        told.due("copy, in place of many", x.copy(), 4);
        told.due("count(7), too", x.count(7), 4);
        told.due("forge, its first", x.forge(0, 0), 1);
        told.due("new", new CellarPushers(2, 2).copy(), 0);
    }

    /** The first steps of a plan are done one by one, so that the rest of it is the plan from there. */
    private void copiesAtTheLimit() {
        told.quote("-2 when they are more than 400.");
        CellarPushers x = LongPlan.cellar();
        told.due("fewest", x.fewest(), LongPlan.PUSHES);
        told.due("steps", x.steps(), LongPlan.STEPS);
        refusedCopy(x);
        stepOn(x, LongPlan.STEPS - 401);
        x.fewest();
        told.due("steps, some done", x.steps(), 401);
        refusedCopy(x);
        stepOn(x, 1);
        x.fewest();
        told.due("steps, one more done", x.steps(), 400);
        int last = x.plan(399);
        told.due("copy of 400", x.copy(), 400);
        told.due("count(7)", x.count(7), 400);
        told.due("tell, a 401st", x.tell(0), -2);
        told.due("check, 400", x.check(), 1400);
        told.due("forge, the 400th", x.forge(399, last), last);
        told.due("follow", x.follow(), 400);
        told.due("isDone", x.isDone(), true);
        told.due("steps of all", x.count(3), LongPlan.STEPS);
        told.due("pushes of all", x.count(4), LongPlan.PUSHES);
    }

    private void refusedCopy(CellarPushers x) {
        int steps = x.steps();
        int last = x.plan(steps - 1);
        int acts = x.count(6);
        x.hush();
        x.tell(3);
        x.tell(2);
        told.due("copy of " + steps, x.copy(), -2);
        told.due("the tape stays", x.count(7), 2);
        told.due("its first way", x.forge(0, 3), 3);
        told.due("its last way", x.forge(1, 2), 2);
        told.due("the plan stays", x.steps(), steps);
        told.due("its end", x.plan(steps - 1), last);
        told.due("behind its end", x.plan(steps), -2);
        told.due("acts", x.count(6), acts);
    }

    private void stepOn(CellarPushers x, int steps) {
        for (int i = 0; i < steps; i++) {
            told.due("step", x.step(x.plan(i)) >= 0, true);
        }
    }

    private void forges() {
        told.in("Promise 30");
        told.quote("The i-th way of the TAPE, from 0 on, becomes another one, or the same: what it was.");
        CellarPushers x = Drawing.drawn("m.", "..");
        x.tell(1);
        x.tell(2);
        x.tell(3);
        told.due("check", x.check(), 1003);
        told.due("forge, the first", x.forge(0, 2), 1);
        told.due("forge, the same", x.forge(0, 2), 2);
        told.due("check, forged", x.check(), 1);
        told.due("forge, the last", x.forge(2, 0), 3);
        told.due("forge, the last again", x.forge(2, 3), 0);
        told.due("forge, the midst", x.forge(1, 1), 2);
        told.due("count(7)", x.count(7), 3);
        told.due("check, forged again", x.check(), 1003);
        told.quote("-2 when there is no such one or way.");
        for (int i : NO_PLACES) {
            told.due("forge(" + i + ")", x.forge(i, 0), -2);
        }
        told.due("forge(3)", x.forge(3, 0), -2);
        told.due("forge(400)", x.forge(400, 0), -2);
        for (int way : new int[] {-1, 4, Integer.MIN_VALUE, Integer.MAX_VALUE}) {
            told.due("forge, way " + way, x.forge(1, way), -2);
        }
        told.due("forge, as it was", x.forge(1, 0), 1);
        x.hush();
        told.due("forge, hushed", x.forge(0, 0), -2);
        told.due("forge, new", new CellarPushers(2, 2).forge(0, 0), -2);
    }

    private void hushes() {
        told.in("Promise 31");
        told.quote("The TAPE is empty: how many it had.");
        CellarPushers x = new CellarPushers(2, 2);
        told.due("hush, new", x.hush(), 0);
        for (int i = 0; i < MOST_TOLD; i++) {
            x.tell(i % 4);
        }
        told.due("hush", x.hush(), MOST_TOLD);
        told.due("count(7)", x.count(7), 0);
        told.due("hush, again", x.hush(), 0);
        told.due("tell", x.tell(2), 1);
        told.due("hush, one", x.hush(), 1);
        CellarPushers planned = Drawing.drawn("mb.O");
        planned.fewest();
        planned.copy();
        told.due("hush, copied", planned.hush(), 2);
        told.due("the plan stays", planned.steps(), 2);
    }

    private void checks() {
        told.in("Promise 32");
        told.quote("How many steps of the TAPE, from the first on, can be done from where all is now;");
        CellarPushers x = Drawing.drawn("mb.O#", ".....");
        told.due("check, empty", x.check(), 0);
        x.tell(WEST);
        told.due("check, not the first", x.check(), 0);
        x.tell(EAST);
        told.due("check, the second does not count", x.check(), 0);
        x.forge(0, EAST);
        x.tell(EAST);
        told.due("check, DONE, then stuck", x.check(), 2);
        x.forge(2, SOUTH);
        x.tell(SOUTH);
        told.due("check, stuck at the last", x.check(), 3);
        x.walk(0, 1);
        told.due("check, from elsewhere", x.check(), 2);
        told.quote("1000 more if all can, and the cellar is DONE then.");
        x.walk(0, 0);
        x.forge(3, WEST);
        told.due("check, all, DONE", x.check(), 1004);
        x.forge(1, SOUTH);
        told.due("check, not all", x.check(), 2);
        x.forge(2, EAST);
        told.due("check, all, not DONE", x.check(), 4);
        x.hush();
        told.due("check, none, not DONE", x.check(), 0);
        x.step(EAST);
        x.step(EAST);
        told.due("check, none, DONE", x.check(), 1000);
        told.due("check, nothing WANTED", Drawing.drawn("m.").check(), 1000);
        CellarPushers over = Drawing.drawn("mbO.");
        over.tell(EAST);
        over.tell(EAST);
        told.due("check, DONE only on its way", over.check(), 2);
        told.quote("-2 when the man is not in the cellar.");
        CellarPushers none = Drawing.drawn("..");
        told.due("check without a man", none.check(), -2);
        none.tell(EAST);
        told.due("check without a man, too", none.check(), -2);
        none.man(0, 0);
        told.due("check with him", none.check(), 1001);
    }

    private void checksOfLongTapes() {
        told.quote("Nothing is done.");
        CellarPushers x = Drawing.drawn("mb.O", "....");
        x.tell(EAST);
        x.tell(EAST);
        told.due("check", x.check(), 1002);
        told.due("man", x.count(8), 0);
        told.due("barrel", x.on(1, 0), 1);
        told.due("steps, pushes, acts", x.count(3) + x.count(4) + x.count(6), 0);
        CellarPushers all = Drawing.drawn("m.", "..");
        for (int i = 0; i < MOST_TOLD; i++) {
            all.tell((1 + i) % 4);
        }
        told.due("check, 400", all.check(), 1400);
        all.forge(399, WEST);
        told.due("check, the last of 400 not", all.check(), 399);
        all.forge(0, NORTH);
        told.due("check, the first of 400 not", all.check(), 0);
    }

    private void counts() {
        told.in("Promise 33");
        told.quote("How many: 0 fields that are no WALL, 1 barrels, 2 WANTED fields,");
        CellarPushers x = Drawing.drawn("#.os", ">gbG");
        told.due("count(0)", x.count(0), 7);
        told.due("count(1)", x.count(1), 1);
        told.due("count(2)", x.count(2), 1);
        told.due("count(0), new", new CellarPushers(8, 8).count(0), 0);
        told.due("count(0), all", Drawing.drawn("..", "..").count(0), 4);
        x.line(0, true);
        told.due("count(0), a MISSING line", x.count(0), 4);
        x.barrel(2, 1, false);
        x.want(3, 1, false);
        told.due("count(1), none", x.count(1), 0);
        told.due("count(2), none", x.count(2), 0);
        CellarPushers wanted = new CellarPushers(8, 8);
        for (int i = 0; i < 64; i++) {
            wanted.field(i % 8, i / 8, i % 2 == 0 ? 2 : 5, 0);
            wanted.want(i % 8, i / 8, true);
        }
        told.due("count(2), all", wanted.count(2), 64);
        told.due("count(0), all of 64", wanted.count(0), 64);
        told.quote("3 steps that were done since the beginning (undone ones not), 4 pushes among them,");
        CellarPushers steps = Drawing.drawn("mb...", ".....");
        told.due("count(3), none", steps.count(3), 0);
        steps.walk(0, 1);
        steps.push(1, 0, EAST);
        steps.step(EAST);
        steps.step(NORTH);
        told.due("count(3)", steps.count(3), 4);
        told.due("count(4)", steps.count(4), 2);
        steps.undo();
        told.due("count(3), undone", steps.count(3), 3);
        told.due("count(4), undone", steps.count(4), 1);
        steps.redo();
        told.due("count(3), done again", steps.count(3), 4);
        steps.barrel(3, 1, true);
        steps.man(0, 0);
        steps.line(1, false);
        told.due("count(3), changed", steps.count(3), 4);
        told.due("count(4), changed", steps.count(4), 2);
        steps.walk(1, 0);
        told.due("count(3), more", steps.count(3), 5);
    }

    private void countsOfWalks() {
        told.quote("5 fields to which the man can walk (his own, too; 0 when he is not there),");
        told.due("count(5), no man", Drawing.drawn("...").count(5), 0);
        told.due("count(5), all", Drawing.drawn("m..", "...").count(5), 6);
        told.due("count(5), his own", Drawing.drawn("m#.", "b..").count(5), 1);
        told.due("count(5), no way back", Drawing.drawn("m>.g.").count(5), 3);
        told.due("count(5), against it", Drawing.drawn(".>m").count(5), 1);
        told.quote("6 acts that can be undone, 7 ways on the TAPE,");
        CellarPushers x = Drawing.drawn("m..", "...");
        told.due("count(6), none", x.count(6), 0);
        x.step(EAST);
        x.walk(1, 0);
        told.due("count(6)", x.count(6), 2);
        x.step(NORTH);
        told.due("count(6), a step in vain", x.count(6), 2);
        x.undo();
        told.due("count(6), undone", x.count(6), 1);
        x.redo();
        told.due("count(6), done again", x.count(6), 2);
        x.man(0, 0);
        told.due("count(6), the man set", x.count(6), 0);
        told.due("count(7), none", x.count(7), 0);
        x.tell(0);
        x.tell(0);
        told.due("count(7)", x.count(7), 2);
        told.quote("8 the NUMBER of the man's field (-1 without).");
        told.due("count(8)", x.count(8), 0);
        x.man(2, 1);
        told.due("count(8), another", x.count(8), 10);
        told.due("count(8), no man", Drawing.drawn("..").count(8), -1);
        told.quote("-2 for another what.");
        for (int what : new int[] {-1, 9, 10, Integer.MIN_VALUE, Integer.MAX_VALUE}) {
            told.due("count(" + what + ")", x.count(what), -2);
            told.due("count(" + what + "), new", new CellarPushers(2, 2).count(what), -2);
        }
    }
}
