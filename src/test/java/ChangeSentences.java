/** The sentences of promises 1 to 12: what changes a cellar. */
final class ChangeSentences {
    private static final int NORTH = Drawing.NORTH;
    private static final int EAST = Drawing.EAST;
    private static final int SOUTH = Drawing.SOUTH;
    private static final int WEST = Drawing.WEST;

    private final Sentences told;

    ChangeSentences(Sentences told) {
        this.told = told;
    }

    void test() {
        newObjects();
        fields();
        lines();
        barrels();
        men();
        wants();
        steps();
        walks();
        pushes();
        cans();
        undone();
        undoneByEach();
        undoneNoMore();
        redone();
    }

    private void newObjects() {
        told.in("Promise 1");
        told.quote("A cellar of this size (each 2 at least, 8 at most; of another number the nearest), without man and "
                + "barrels.");
        int[] asked = {Integer.MIN_VALUE, -8, -1, 0, 1, 2, 3, 7, 8, 9, 10, 64, Integer.MAX_VALUE};
        int[] due = {2, 2, 2, 2, 2, 2, 3, 7, 8, 8, 8, 8, 8};
        for (int i = 0; i < asked.length; i++) {
            for (int j = 0; j < asked.length; j++) {
                sized(asked[i], asked[j], due[i], due[j]);
            }
        }
        CellarPushers x = new CellarPushers(3, 4);
        told.due("barrels", x.count(1), 0);
        told.due("WANTED fields", x.count(2), 0);
        told.due("the man's field", x.count(8), -1);
        told.due("steps of the plan", x.steps(), 0);
        told.due("ways on the tape", x.count(7), 0);
        told.due("line", x.line(0, false), 0);
        told.due("why", x.why(), -1);
    }

    private void sized(int width, int height, int dueWidth, int dueHeight) {
        CellarPushers x = new CellarPushers(width, height);
        told.due("last field", x.on(dueWidth - 1, dueHeight - 1), 0);
        told.due("right of it", x.on(dueWidth, dueHeight - 1), -2);
        told.due("below it", x.on(dueWidth - 1, dueHeight), -2);
        told.due("last line", x.line(dueHeight - 1, false), 0);
        told.due("line below it", x.line(dueHeight, false), -2);
    }

    private void fields() {
        told.in("Promise 2");
        told.quote("A field becomes of a KIND: the KIND that it was");
        for (int before = 0; before <= 5; before++) {
            for (int after = 0; after <= 5; after++) {
                CellarPushers x = new CellarPushers(2, 2);
                x.field(0, 1, before, 0);
                told.due("field", x.field(0, 1, after, 0), before);
                told.due("kind", x.kind(0, 1), after);
                told.due("kind of another", x.kind(1, 1), 0);
            }
        }
        told.quote("(of a LINE that is MISSING: as it will be again).");
        CellarPushers x = Drawing.drawn("...", ".s.");
        x.line(1, true);
        told.due("field in it", x.field(1, 1, 5, 0), 3);
        told.due("field in it, again", x.field(1, 1, 2, 0), 5);
        told.due("kind in it", x.kind(1, 1), 0);
        told.due("field of WALL in it", x.field(0, 1, 0, 0), 1);
        x.line(1, false);
        told.due("kind, back", x.kind(1, 1), 2);
        told.due("kind of WALL, back", x.kind(0, 1), 0);
        fieldsRefused();
    }

    private void fieldsRefused() {
        told.quote("-2 when there is no such field or KIND;");
        CellarPushers x = Drawing.drawn("...", "...");
        for (int[] at : new int[][] {{-1, 0}, {3, 0}, {0, -1}, {0, 2}, {8, 0}}) {
            told.due("field outside", x.field(at[0], at[1], 0, 0), -2);
        }
        for (int kind : new int[] {-1, 6, Integer.MIN_VALUE, Integer.MAX_VALUE}) {
            told.due("field of kind " + kind, x.field(0, 0, kind, 0), -2);
        }
        told.due("kind", x.kind(0, 0), 1);
        told.quote("the way is not 0..3 (RAMP), not 0 (others);");
        for (int way = -2; way <= 5; way++) {
            for (int kind = 0; kind <= 5; kind++) {
                CellarPushers some = new CellarPushers(2, 2);
                boolean fits = kind == 4 ? way >= 0 && way <= 3 : way == 0;
                told.due("field of kind " + kind + ", way " + way, some.field(1, 0, kind, way), fits ? 0 : -2);
                told.due("kind", some.kind(1, 0), fits ? kind : 0);
            }
        }
        told.quote("a barrel or the man is on it;");
        CellarPushers used = Drawing.drawn("mb.", "..O");
        told.due("field with the man", used.field(0, 0, 1, 0), -2);
        told.due("field with a barrel", used.field(1, 0, 2, 0), -2);
        used.step(EAST);
        told.due("field, he is gone", used.field(0, 0, 2, 0), 1);
        told.due("field, he is there", used.field(1, 0, 2, 0), -2);
        told.due("field, it is there", used.field(2, 0, 2, 0), -2);
        told.quote("or it is WANTED.");
        told.due("field", used.field(2, 1, 2, 0), -2);
        used.want(2, 1, false);
        told.due("field, no more WANTED", used.field(2, 1, 5, 0), 2);
        used.want(2, 1, true);
        told.due("field, a WANTED GRATE", used.field(2, 1, 5, 0), -2);
    }

    private void lines() {
        told.in("Promise 3");
        told.quote("A LINE is MISSING from now on, or not: 1 if it was, else 0.");
        CellarPushers x = Drawing.drawn("m..", "...", "...");
        told.due("line, not missing", x.line(1, false), 0);
        told.due("line, now", x.line(1, true), 0);
        told.due("line, already", x.line(1, true), 1);
        told.due("line, another", x.line(2, true), 0);
        told.due("line, no more", x.line(1, false), 1);
        told.due("line, no more, again", x.line(1, false), 0);
        told.due("line, the other still", x.line(2, false), 1);
        told.quote("-2 when there is none such,");
        for (int y : new int[] {-1, 3, 4, 7, 8, Integer.MIN_VALUE, Integer.MAX_VALUE}) {
            told.due("line(" + y + ")", x.line(y, true), -2);
            told.due("line(" + y + "), no more", x.line(y, false), -2);
        }
        told.due("line, the least", x.line(0, true), -2);
        told.due("line, the greatest of 8", new CellarPushers(2, 8).line(7, true), 0);
        told.due("line 8 of 8", new CellarPushers(2, 8).line(8, true), -2);
        told.quote("or a barrel or the man is on one of its fields,");
        for (String row : new String[] {"m.......", "...m....", ".......m", "b.......", ".......b"}) {
            told.due("line of " + row, Drawing.drawn("........", row).line(1, true), -2);
            told.due("the line before " + row, Drawing.drawn("........", row).line(0, true), 0);
        }
        told.quote("or one is WANTED");
        for (String row : new String[] {"O.......", ".......O", "G......."}) {
            told.due("line of " + row, Drawing.drawn("........", row).line(1, true), -2);
        }
        told.due("line with a MARK that is not", Drawing.drawn("...", "og.").line(1, true), 0);
        told.quote("(if nothing would change, too).");
        for (String row : new String[] {"m.", ".b", "O.", ".G", "H."}) {
            told.due("line of " + row + ", not missing", Drawing.drawn("..", row).line(1, false), -2);
        }
    }

    private void barrels() {
        told.in("Promise 4");
        told.quote("A barrel is set on a field, or taken off: 1 if one was there, else 0.");
        CellarPushers x = Drawing.drawn(".os>gGO", "#......");
        for (int i = 0; i < 7; i++) {
            told.due("barrel on", x.barrel(i, 0, true), 0);
            told.due("barrel on, again", x.barrel(i, 0, true), 1);
            told.due("on", x.on(i, 0) & 3, 1);
            told.due("count(1)", x.count(1), 1);
            told.due("barrel off", x.barrel(i, 0, false), 1);
            told.due("barrel off, again", x.barrel(i, 0, false), 0);
        }
        told.quote("-2 when there is no such field;");
        for (int[] at : new int[][] {{-1, 0}, {7, 0}, {0, -1}, {0, 2}, {8, 0}, {-1, 1}}) {
            told.due("barrel on the outside", x.barrel(at[0], at[1], true), -2);
            told.due("barrel off the outside", x.barrel(at[0], at[1], false), -2);
        }
        told.quote("to be set on: it is WALL, the man is on it,");
        x.man(1, 1);
        told.due("barrel on WALL", x.barrel(0, 1, true), -2);
        told.due("barrel on the man", x.barrel(1, 1, true), -2);
        told.due("barrel off WALL", x.barrel(0, 1, false), 0);
        told.due("barrel off the man", x.barrel(1, 1, false), 0);
        told.due("the man is there", x.on(1, 1), 2);
        CellarPushers line = Drawing.drawn("..", "..");
        line.line(0, true);
        told.due("barrel on a line that is MISSING", line.barrel(0, 0, true), -2);
        told.due("barrel off it", line.barrel(0, 0, false), 0);
        told.quote("or there are 12 barrels (one on it, too).");
        CellarPushers full = Drawing.drawn("bbbb", "bbbb", "bbb.", "..m.");
        told.due("the 12th", full.barrel(3, 2, true), 0);
        told.due("the 13th", full.barrel(0, 3, true), -2);
        told.due("where one is", full.barrel(3, 2, true), -2);
        told.due("count(1)", full.count(1), 12);
        told.due("off where none is", full.barrel(0, 3, false), 0);
        told.due("off", full.barrel(0, 0, false), 1);
        told.due("where one is, with 11", full.barrel(3, 2, true), 1);
        told.due("the 12th, another", full.barrel(0, 3, true), 0);
    }

    private void men() {
        told.in("Promise 5");
        told.quote("The man is set on a field: 1 if he was in the cellar, else 0.");
        CellarPushers x = Drawing.drawn("#.os>Ogb", "........");
        told.due("man, first", x.man(1, 0), 0);
        told.due("man, where he is", x.man(1, 0), 1);
        for (int i = 2; i <= 5; i++) {
            told.due("man", x.man(i, 0), 1);
            told.due("count(8)", x.count(8), i);
            told.due("where he was", x.on(i - 1, 0), 0);
        }
        told.quote("-2 when there is no such field, it is WALL or GRATE, or a barrel is on it.");
        for (int[] at : new int[][] {{-1, 0}, {8, 0}, {0, -1}, {0, 2}, {-1, 1}}) {
            told.due("man outside", x.man(at[0], at[1]), -2);
        }
        told.due("man on WALL", x.man(0, 0), -2);
        told.due("man on a GRATE", x.man(6, 0), -2);
        told.due("man on a barrel", x.man(7, 0), -2);
        told.due("he is where he was", x.count(8), 5);
        x.man(0, 1);
        x.want(5, 0, false);
        x.barrel(7, 0, false);
        x.line(0, true);
        told.due("man on a line that is MISSING", x.man(1, 0), -2);
        told.due("refused at first", Drawing.drawn("#.").man(0, 0), -2);
    }

    private void wants() {
        told.in("Promise 6");
        told.quote("A field is WANTED, or not: 1 if it was, else 0.");
        CellarPushers x = Drawing.drawn("og.", "h#m");
        for (int[] at : new int[][] {{0, 0}, {1, 0}, {0, 1}}) {
            told.due("want not", x.want(at[0], at[1], false), 0);
            told.due("want", x.want(at[0], at[1], true), 0);
            told.due("want, again", x.want(at[0], at[1], true), 1);
        }
        told.due("count(2)", x.count(2), 3);
        told.due("want not, now", x.want(1, 0, false), 1);
        told.due("want not, again", x.want(1, 0, false), 0);
        told.due("count(2), less", x.count(2), 2);
        told.quote("-2 when there is no such field, or it is no MARK or GRATE;");
        for (int[] at : new int[][] {{-1, 0}, {3, 0}, {0, -1}, {0, 2}, {8, 0}}) {
            told.due("want outside", x.want(at[0], at[1], true), -2);
            told.due("want not outside", x.want(at[0], at[1], false), -2);
        }
        CellarPushers kinds = Drawing.drawn("#.s>", "m...");
        for (int i = 0; i < 4; i++) {
            told.due("want kind " + kinds.kind(i, 0), kinds.want(i, 0, true), -2);
            told.due("want not kind " + kinds.kind(i, 0), kinds.want(i, 0, false), -2);
        }
        told.due("count(2), none", kinds.count(2), 0);
        told.quote("(or it is in a LINE that is MISSING).");
        CellarPushers line = Drawing.drawn("og", "..");
        line.line(0, true);
        told.due("want a MARK in it", line.want(0, 0, true), -2);
        told.due("want not a MARK in it", line.want(0, 0, false), -2);
        told.due("want a GRATE in it", line.want(1, 0, true), -2);
        line.line(0, false);
        told.due("want it, back", line.want(0, 0, true), 0);
    }

    private void steps() {
        told.in("Promise 7");
        told.quote("A STEP of the man: 0 if he walked, else how many fields the barrel went.");
        for (int way = 0; way < 4; way++) {
            told.due("step, no barrel", Drawing.along(way, "m.b").step(way), 0);
            told.due("step, one field", Drawing.along(way, "mb.").step(way), 1);
            told.due("step, the most fields", Drawing.along(way, "mbssssss").step(way), 6);
        }
        told.quote("-2 when he is not in the cellar, or there is no such way;");
        for (int way = 0; way < 4; way++) {
            told.due("step without a man", Drawing.drawn("...", "...").step(way), -2);
        }
        for (int way : new int[] {-1, 4, Integer.MIN_VALUE, Integer.MAX_VALUE}) {
            told.due("step(" + way + ")", Drawing.drawn("...", ".m.", "...").step(way), -2);
            told.due("step(" + way + ") without a man", Drawing.drawn("..").step(way), -2);
        }
        for (int way = 0; way < 4; way++) {
            blockedSteps(way);
        }
    }

    private void blockedSteps(int way) {
        told.quote("-3 when there is no barrel, and he may not come onto the field;");
        for (String row : new String[] {"m", "m#b.", "mg", "m<", "m^", "mv"}) {
            told.due("step in " + row, Drawing.along(way, row + "").step(way), -3);
        }
        told.quote("-4 when there is one, and he may not come onto its field;");
        for (String row : new String[] {"mg..", "m<..", "m^..", "mv..", "mg#.", "m<#."}) {
            CellarPushers x = Drawing.along(way, row);
            x.barrel(Drawing.xAlong(way, row, 1), Drawing.yAlong(way, row, 1), true);
            told.due("step, a barrel in " + row, x.step(way), -4);
        }
        told.quote("-5 when it may not come onto the next one.");
        for (String row : new String[] {"mb", "mb#.", "mbb.", "mb<.", "mb^.", "mbv."}) {
            told.due("step in " + row, Drawing.along(way, row).step(way), -5);
        }
    }

    private void walks() {
        told.in("Promise 8");
        told.quote("The man walks to a field without a push, by the fewest steps (to his own one by 0, an act, too): how "
                + "many.");
        CellarPushers x = Drawing.drawn("m#...", ".b.#.", "..>..", "#g<..");
        told.due("walk to his own", x.walk(0, 0), 0);
        told.due("an act", x.count(6), 1);
        told.due("walk round a barrel", x.walk(2, 1), 7 - 2);
        told.due("walk back", x.walk(1, 2), -3);
        told.due("walk on", x.walk(4, 0), 3);
        told.due("walk down", x.walk(3, 3), 4);
        told.due("walk along a RAMP", x.walk(2, 3), 1);
        told.due("steps", x.count(3), 5 + 3 + 4 + 1);
        told.due("pushes", x.count(4), 0);
        told.due("acts", x.count(6), 5);
        told.due("his own, at the end", x.walk(2, 3), 0);
        told.due("acts, one more", x.count(6), 6);
        told.due("undo of it", x.undo(), 5);
        told.due("the barrel", x.on(1, 1), 1);
        CellarPushers open = Drawing.drawn("m.......", "........", "........", "........", "........", "........",
                "........", "........");
        told.due("walk across", open.walk(7, 7), 14);
        CellarPushers snake = Drawing.drawn("m.......", "#######.", "........", ".#######", "........", "#######.",
                "........", ".#######");
        told.due("walk all along", snake.walk(0, 7), 4 * 7 + 7);
        told.quote("-2 when he is not in the cellar, or there is no such field;");
        told.due("walk without a man", Drawing.drawn("..").walk(0, 0), -2);
        for (int[] at : new int[][] {{-1, 0}, {5, 0}, {0, -1}, {0, 4}, {8, 0}}) {
            told.due("walk outside", x.walk(at[0], at[1]), -2);
        }
        told.quote("-3 when he can not.");
        CellarPushers shut = Drawing.drawn("m#.", "b.g", "<..");
        int[][] fields = {{1, 0}, {2, 0}, {0, 1}, {1, 1}, {2, 1}, {0, 2}};
        for (int[] at : fields) {
            told.due("walk to (" + at[0] + ", " + at[1] + ")", shut.walk(at[0], at[1]), -3);
        }
        told.due("steps", shut.count(3), 0);
        told.due("acts", shut.count(6), 0);
    }

    private void pushes() {
        told.in("Promise 9");
        told.quote("The man walks to the field before a barrel, against the way, and pushes it: how many fields it went.");
        int[] steps = {4, 2, 2, 4};
        for (int way = 0; way < 4; way++) {
            CellarPushers x = Drawing.drawn(".....", ".m...", "..b..", ".....", ".....");
            told.due("push", x.push(2, 2, way), 1);
            told.due("man", x.count(8), 18);
            told.due("walked and pushed", x.count(3), steps[way]);
            told.due("a push", x.count(4), 1);
            told.due("an act", x.count(6), 1);
            told.due("undone as one", x.undo(), 0);
            told.due("the man again", x.count(8), 9);
            told.due("the barrel again", x.on(2, 2), 1);
        }
        CellarPushers there = Drawing.drawn("mbss.");
        told.due("push from where he is", there.push(1, 0, EAST), 3);
        told.due("one step", there.count(3), 1);
        told.quote("-2 when he is not in the cellar, there is no such field or way, or no barrel on it;");
        told.due("push without a man", Drawing.drawn(".b.").push(1, 0, EAST), -2);
        CellarPushers x = Drawing.drawn("....", ".b..", "m...");
        for (int[] at : new int[][] {{-1, 1}, {4, 1}, {1, -1}, {1, 3}, {8, 0}, {9, 0}}) {
            told.due("push outside", x.push(at[0], at[1], EAST), -2);
        }
        for (int way : new int[] {-1, 4, Integer.MIN_VALUE, Integer.MAX_VALUE}) {
            told.due("push, way " + way, x.push(1, 1, way), -2);
        }
        told.due("push, no barrel", x.push(2, 1, EAST), -2);
        told.due("push, the man", x.push(0, 2, EAST), -2);
        pushesInVain();
    }

    private void pushesInVain() {
        told.quote("-3 when he can not walk there;");
        told.due("push from the outside", Drawing.drawn("b.", "m.").push(0, 0, EAST), -3);
        told.due("push from WALL", Drawing.drawn("#b.", "m..").push(1, 0, EAST), -3);
        told.due("push from a GRATE", Drawing.drawn("gb.", "m..").push(1, 0, EAST), -3);
        told.due("push from a barrel", Drawing.drawn("bb.", "m..").push(1, 0, EAST), -3);
        told.due("push from a RAMP", Drawing.drawn("vb.", "m..").push(1, 0, EAST), -3);
        told.due("push from a RAMP that he may come onto", Drawing.drawn("^b.", "m..").push(1, 0, EAST), 1);
        told.due("push from where he is shut off", Drawing.drawn(".b.", "##m").push(1, 0, EAST), -3);
        told.quote("-4, -5 as of step().");
        CellarPushers x = Drawing.drawn("....#", "mh.b<", "....b", ".....", "...<.");
        x.barrel(3, 4, true);
        told.due("push on a GRATE", x.push(1, 1, EAST), -4);
        told.due("push on a GRATE, from elsewhere", x.push(1, 1, SOUTH), -4);
        told.due("push on a RAMP", x.push(3, 4, EAST), -4);
        told.due("push against a RAMP", x.push(3, 1, EAST), -5);
        told.due("push against it, a barrel", x.push(4, 2, NORTH), -5);
        told.due("push to the outside", x.push(4, 2, EAST), -5);
        told.due("he stays", x.count(8), 8);
        told.due("no steps", x.count(3), 0);
        told.due("no acts", x.count(6), 0);
        told.due("push along its RAMP", x.push(3, 4, WEST), 1);
    }

    private void cans() {
        told.in("Promise 10");
        told.quote("What push() would answer; nothing is done.");
        String[] rows = {"b..ss", "mhb..", "..b#.", ".>b<.", "..#.b"};
        for (int i = 0; i < 25; i++) {
            for (int way = -1; way <= 4; way++) {
                CellarPushers x = Drawing.drawn(rows);
                CellarPushers twin = Drawing.drawn(rows);
                told.due("can(" + i % 5 + ", " + i / 5 + ", " + way + ")", x.can(i % 5, i / 5, way),
                        twin.push(i % 5, i / 5, way));
                told.due("acts and steps", x.count(6) + x.count(3) + x.count(4), 0);
                told.due("man", x.count(8), 8);
            }
        }
        told.due("can without a man", Drawing.drawn(".b.").can(1, 0, EAST), -2);
    }

    private void undone() {
        told.in("Promise 11");
        told.quote("The latest step(), walk(), push() or follow() that was done and is not undone, is undone: man, "
                + "barrels, steps and pushes are as they were before: how many more can be.");
        CellarPushers x = Drawing.drawn(".....", "mb.O.");
        x.fewest();
        x.walk(0, 0);
        x.step(SOUTH);
        x.follow();
        x.push(3, 1, WEST);
        told.due("steps of all", x.count(3), 9);
        told.due("pushes of all", x.count(4), 3);
        int[] acts = {3, 2, 1, 0};
        int[] men = {10, 8, 0, 8};
        int[] barrels = {11, 9, 9, 9};
        int[] steps = {4, 2, 1, 0};
        int[] pushes = {2, 0, 0, 0};
        for (int i = 0; i < acts.length; i++) {
            told.due("undo", x.undo(), acts[i]);
            told.due("acts", x.count(6), acts[i]);
            told.due("man", x.count(8), men[i]);
            told.due("barrel", x.on(barrels[i] % 8, barrels[i] / 8) & 3, 1);
            told.due("barrels", x.count(1), 1);
            told.due("steps", x.count(3), steps[i]);
            told.due("pushes", x.count(4), pushes[i]);
        }
        CellarPushers again = Drawing.drawn("m...", "....");
        again.step(EAST);
        again.step(EAST);
        again.undo();
        again.step(SOUTH);
        told.due("undo, one was undone before", again.undo(), 1);
        told.due("man", again.count(8), 1);
        told.due("undo, the first", again.undo(), 0);
        told.due("man, at first", again.count(8), 0);
        asManyAsCalls();
    }

    /** An object is used for 512 calls: all but a few of them may be acts. */
    private void asManyAsCalls() {
        CellarPushers x = Drawing.drawn("m.");
        for (int i = 0; i < 250; i++) {
            x.step(i % 2 == 0 ? EAST : WEST);
        }
        for (int i = 249; i >= 0; i--) {
            told.due("undo", x.undo(), i);
        }
        CellarPushers more = Drawing.drawn("m.");
        for (int i = 0; i < 507; i++) {
            more.step(i % 2 == 0 ? EAST : WEST);
        }
        told.due("undo, the last of all", more.undo(), 506);
    }

    /** Each kind of act alone, and what it leaves undone. */
    private void undoneByEach() {
        for (int act = 0; act < 5; act++) {
            CellarPushers x = Drawing.drawn("....", "mb.O", "....");
            x.fewest();
            x.step(NORTH);
            x.step(SOUTH);
            told.due("act " + act, act(x, act), new int[] {1, 0, 3, 1, 2}[act]);
            told.due("acts", x.count(6), 3);
            told.due("undo", x.undo(), 2);
            told.due("man", x.count(8), 8);
            told.due("barrel", x.on(1, 1), 1);
            told.due("WANTED field", x.on(3, 1), 4);
            told.due("steps", x.count(3), 2);
            told.due("pushes", x.count(4), 0);
            told.due("undo, the one before", x.undo(), 1);
            told.due("man, before", x.count(8), 0);
            told.due("undo, the first", x.undo(), 0);
            told.due("man, at first", x.count(8), 8);
            told.due("steps, at first", x.count(3), 0);
        }
        told.quote("-2 when there is none");
        told.due("undo, new", new CellarPushers(2, 2).undo(), -2);
        CellarPushers x = Drawing.drawn("mb#");
        told.due("undo, nothing done", x.undo(), -2);
        x.step(EAST);
        x.step(WEST);
        x.walk(2, 0);
        x.push(1, 0, EAST);
        x.follow();
        told.due("undo, all refused", x.undo(), -2);
        x.walk(0, 0);
        told.due("undo, one", x.undo(), 0);
        told.due("undo, none left", x.undo(), -2);
        told.due("undo, none left still", x.undo(), -2);
        told.due("redo, after that", x.redo(), 0);
    }

    private static int act(CellarPushers x, int act) {
        return switch (act) {
            case 0 -> x.step(EAST);
            case 1 -> x.walk(0, 1);
            case 2 -> x.walk(1, 0) + x.count(6) - 2;
            case 3 -> x.push(1, 1, SOUTH);
            default -> x.follow();
        };
    }

    private void undoneNoMore() {
        told.quote("(field(), line(), barrel(), man(), want() that were done, with a change or without one, leave none to "
                + "be undone or done again).");
        for (int change = 0; change < 12; change++) {
            CellarPushers x = Drawing.drawn("mb.o", "....", "#...");
            x.step(EAST);
            x.step(WEST);
            x.undo();
            told.due("acts before", x.count(6), 1);
            told.due("change " + change, change(x, change) >= 0, true);
            told.due("acts after", x.count(6), 0);
            told.due("undo", x.undo(), -2);
            told.due("redo", x.redo(), -2);
            told.due("steps stay", x.count(3), 1);
            told.due("pushes stay", x.count(4), 1);
            told.due("walk, anew", x.walk(1, 1), 1);
            told.due("undo of it", x.undo(), 0);
            told.due("steps as before", x.count(3), 1);
        }
    }

    /** Of two after one another the first changes something, the second does not. */
    private static int change(CellarPushers x, int change) {
        return switch (change) {
            case 0 -> x.field(3, 2, 2, 0);
            case 1 -> x.field(3, 2, 1, 0);
            case 2 -> x.field(0, 2, 1, 0);
            case 3 -> x.line(2, true);
            case 4 -> x.line(2, false);
            case 5 -> x.barrel(3, 1, true);
            case 6 -> x.barrel(2, 0, true);
            case 7 -> x.barrel(3, 1, false);
            case 8 -> x.man(0, 1);
            case 9 -> x.man(1, 0);
            case 10 -> x.want(3, 0, true);
            default -> x.want(3, 0, false);
        };
    }

    private void redone() {
        told.in("Promise 12");
        told.quote("The latest one that was undone is done again: how many more can be.");
        CellarPushers x = Drawing.drawn("....", "mb.O", "....");
        x.fewest();
        x.walk(0, 2);
        x.push(1, 1, NORTH);
        x.step(SOUTH);
        x.undo();
        x.undo();
        x.undo();
        told.due("redo of a walk", x.redo(), 2);
        told.due("man", x.count(8), 16);
        told.due("redo of a push", x.redo(), 1);
        told.due("barrel", x.on(1, 0), 1);
        told.due("pushes", x.count(4), 1);
        told.due("steps", x.count(3), 3);
        told.due("redo of a step", x.redo(), 0);
        told.due("man, at the end", x.count(8), 17);
        told.due("acts", x.count(6), 3);
        x.undo();
        x.undo();
        x.undo();
        told.due("follow", x.follow(), 2);
        x.undo();
        told.due("redo of a follow", x.redo(), 0);
        told.due("isDone", x.isDone(), true);
        told.quote("-2 when there is none;");
        told.due("redo, new", new CellarPushers(2, 2).redo(), -2);
        told.due("redo, nothing undone", x.redo(), -2);
        x.undo();
        x.redo();
        told.due("redo, all done again", x.redo(), -2);
        told.due("acts, still", x.count(6), 1);
        redoneNoMore();
    }

    private void redoneNoMore() {
        told.quote("(one that is done anew leaves none).");
        for (int act = 0; act < 5; act++) {
            CellarPushers x = Drawing.drawn("....", "mb.O", "....");
            x.fewest();
            x.walk(0, 1);
            x.step(NORTH);
            x.step(SOUTH);
            x.walk(0, 2);
            x.undo();
            x.undo();
            x.undo();
            x.undo();
            told.due("act, refused", x.step(WEST), -3);
            told.due("act, refused, too", x.push(1, 1, 4), -2);
            told.due("redo is left", x.redo(), 3);
            told.due("act " + act + ", anew", act(x, act) >= 0, true);
            told.due("redo", x.redo(), -2);
            told.due("acts", x.count(6), 2);
            told.due("undo", x.undo(), 1);
            told.due("redo of it", x.redo(), 0);
        }
    }
}
