/** The sentences of 'Terms'. */
final class TermSentences {
    private static final int NORTH = Drawing.NORTH;
    private static final int EAST = Drawing.EAST;
    private static final int SOUTH = Drawing.SOUTH;
    private static final int WEST = Drawing.WEST;

    private final Sentences told;

    TermSentences(Sentences told) {
        this.told = told;
    }

    void test() {
        told.in("Terms");
        order();
        fields();
        ways();
        kinds();
        missingLines();
        outside();
        outsideByNumber();
        manMayCome();
        barrelMayCome();
        wantable();
        steps();
        rolling();
        doneAndReady();
        byItself();
        stops();
        deadFields();
        heldBarrels();
        heldInLines();
        prices();
        lows();
    }

    private void order() {
        told.quote("What is wrong is asked in the order in which it is told.");
        for (int way = 0; way < 4; way++) {
            told.due("step: a GRATE, a WALL behind", Drawing.along(way, "mh#").step(way), -4);
            told.due("step: a GRATE, a barrel behind", Drawing.along(way, "mhb.").step(way), -4);
            told.due("step: a RAMP, the outside behind", Drawing.along(way, "m<").step(way), -3);
            told.due("step without a man", Drawing.along(way, ".h#").step(way), -2);
            told.due("push: no barrel, no way to it", push(way, "m#.#", 2), -2);
            told.due("push: no way to it, a GRATE, a WALL behind", push(way, "m#.h#", 3), -3);
            told.due("push: from the outside, a GRATE, stuck", push(way, "hbm", 0), -3);
            told.due("push: a GRATE, a WALL behind", push(way, "m.h#", 2), -4);
            told.due("push: a WALL behind", push(way, "m.b#", 2), -5);
            told.due("push without a man", push(way, "..b#", 2), -2);
        }
        told.due("walk without a man, WALL", Drawing.drawn(".#").walk(1, 0), -2);
        told.due("far without a man, WALL", Drawing.drawn(".#").far(1, 0), -2);
        told.due("walk to the outside", Drawing.drawn("m#").walk(2, 0), -2);
        told.due("push, no field, no way", Drawing.drawn("mb.").push(9, 0, 9), -2);
    }

    private static int push(int way, String row, int i) {
        CellarPushers x = Drawing.along(way, row);
        return x.push(Drawing.xAlong(way, row, i), Drawing.yAlong(way, row, i), way);
    }

    private void fields() {
        told.quote("1. FIELDS (x, y), 0 <= x < WIDTH, 0 <= y < HEIGHT; the NUMBER of one is 8 y + x.");
        for (int width = 2; width <= 8; width++) {
            for (int height = 2; height <= 8; height += 3) {
                cornersOf(width, height);
            }
        }
        CellarPushers x = Drawing.drawn("m..", "...", "...");
        for (int i = 0; i < 9; i++) {
            x.man(i % 3, i / 3);
            told.due("number of the man's field", x.count(8), 8 * (i / 3) + i % 3);
        }
        CellarPushers large = Drawing.drawn("m.......", "........", "........", "........", "........", "........",
                "........", "........");
        large.man(7, 7);
        told.due("the last number", large.count(8), 63);
    }

    private void cornersOf(int width, int height) {
        CellarPushers x = new CellarPushers(width, height);
        told.due("field, first", x.field(0, 0, 1, 0), 0);
        told.due("field, last of the line", x.field(width - 1, 0, 2, 0), 0);
        told.due("field, first of the last line", x.field(0, height - 1, 3, 0), 0);
        told.due("field, last", x.field(width - 1, height - 1, 5, 0), 0);
        told.due("kind, first", x.kind(0, 0), 1);
        told.due("kind, last of the line", x.kind(width - 1, 0), 2);
        told.due("kind, first of the last line", x.kind(0, height - 1), 3);
        told.due("kind, last", x.kind(width - 1, height - 1), 5);
        int[][] outside = {{-1, 0}, {width, 0}, {0, -1}, {0, height}, {width, height - 1}, {width - 1, height}, {8, 0},
            {-1, 1}};
        for (int[] at : outside) {
            told.due("field outside", x.field(at[0], at[1], 1, 0), -2);
            told.due("kind outside", x.kind(at[0], at[1]), -2);
        }
        told.due("fields that are no WALL", x.count(0), 4);
    }

    private void ways() {
        told.quote("WAYS: 0 north (y - 1), 1 east (x + 1), 2 south (y + 1), 3 west (x - 1).");
        int[] due = {1, 10, 17, 8};
        for (int way = 0; way < 4; way++) {
            CellarPushers x = Drawing.drawn("...", ".m.", "...");
            told.due("step(" + way + ")", x.step(way), 0);
            told.due("count(8)", x.count(8), due[way]);
            CellarPushers pushed = Drawing.drawn(".....", ".....", "..b..", ".....", "m....");
            told.due("push, way " + way, pushed.push(2, 2, way), 1);
            told.due("count(8), where it was", pushed.count(8), 18);
            told.due("on, where it is", pushed.on(2 + due[way] % 8 - 1, 2 + due[way] / 8 - 1), 1);
        }
        for (int way : new int[] {-1, 4, 5, Integer.MIN_VALUE, Integer.MAX_VALUE}) {
            told.due("step(" + way + ")", Drawing.drawn("...", ".m.", "...").step(way), -2);
        }
    }

    private void kinds() {
        told.quote("KINDS: 0 WALL, 1 FLOOR, 2 MARK, 3 SLIDE, 4 RAMP (with a way), 5 GRATE.");
        for (int kind = 0; kind <= 5; kind++) {
            for (int way = 0; way < 4; way++) {
                CellarPushers x = new CellarPushers(2, 2);
                boolean fits = kind == 4 || way == 0;
                told.due("field of kind " + kind + " with way " + way, x.field(1, 1, kind, way), fits ? 0 : -2);
                told.due("kind", x.kind(1, 1), fits ? kind : 0);
            }
        }
        told.due("field of kind -1", new CellarPushers(2, 2).field(0, 0, -1, 0), -2);
        told.due("field of kind 6", new CellarPushers(2, 2).field(0, 0, 6, 0), -2);
        told.quote("All are WALL at first.");
        CellarPushers x = new CellarPushers(8, 8);
        for (int i = 0; i < 64; i++) {
            told.due("kind", x.kind(i % 8, i / 8), 0);
        }
        told.due("count(0)", x.count(0), 0);
    }

    private void missingLines() {
        told.quote("A LINE (all fields of one y) may be MISSING: its fields are WALL as long as it is,");
        CellarPushers x = Drawing.drawn("........", "#.os^>v<", "g......m");
        told.due("line", x.line(1, true), 0);
        for (int i = 0; i < 8; i++) {
            told.due("kind in it", x.kind(i, 1), 0);
            told.due("kind above it", x.kind(i, 0), 1);
            told.due("far in it", x.far(i, 1), -1);
            told.due("dead in it", x.dead(i, 1), 0);
            told.due("price in it", x.price(i, 1, i, 1), -2);
            told.due("barrel in it", x.barrel(i, 1, true), -2);
        }
        told.due("count(0)", x.count(0), 16);
        told.due("step into it", x.step(NORTH), -3);
        told.due("count(5)", x.count(5), 7);
        CellarPushers under = Drawing.drawn("...", ".b.", ".m.");
        under.line(0, true);
        told.due("step, a barrel under it", under.step(NORTH), -5);
        CellarPushers rolls = Drawing.drawn("..", "s.", "s.", "b.", "m.");
        rolls.line(1, true);
        told.due("step, rolling to it", rolls.step(NORTH), 1);
        told.quote("and what they were before again when it is not.");
        told.due("line", x.line(1, false), 1);
        int[] due = {0, 1, 2, 3, 4, 4, 4, 4};
        for (int i = 0; i < 8; i++) {
            told.due("kind in it again", x.kind(i, 1), due[i]);
        }
        told.due("count(0), too", x.count(0), 23);
        rampsAgain();
    }

    /** Each ramp has its way again: as it was, or as it was laid in the meantime. */
    private void rampsAgain() {
        for (int way = 0; way < 4; way++) {
            for (int going = 0; going < 4; going++) {
                told.due("step onto a RAMP that is back", stepOntoBack(way, -1, going), way == going ? 0 : -3);
                told.due("step onto a RAMP laid anew", stepOntoBack(way ^ 1, way, going), way == going ? 0 : -3);
            }
        }
    }

    private static int stepOntoBack(int rampWay, int laidAnew, int going) {
        CellarPushers x = Drawing.drawn("...", "...", "...");
        x.field(1, 1, 4, rampWay);
        x.line(1, true);
        x.line(1, true);
        if (laidAnew >= 0) {
            x.field(1, 1, 4, laidAnew);
        }
        x.line(1, false);
        x.man(going == EAST ? 0 : going == WEST ? 2 : 1, going == SOUTH ? 0 : going == NORTH ? 2 : 1);
        return x.step(going);
    }

    private void outside() {
        told.quote("What is outside is WALL, too.");
        for (int way = 0; way < 4; way++) {
            told.due("step to the outside", Drawing.along(way, ".m").step(way), -3);
            told.due("step, a barrel at the edge", Drawing.along(way, ".mb").step(way), -5);
            told.due("push from the outside", push(way, "b.m", 0), -3);
            told.due("step, rolling to the edge", Drawing.along(way, "mbss").step(way), 2);
            told.due("step, down a RAMP at the edge", Drawing.along(way, "mb>").step(way), 1);
        }
        told.due("held in a corner", Drawing.drawn("b..", "...", "...").held(0, 0), 1);
        told.due("held in another", Drawing.drawn("...", "...", "..b").held(2, 2), 1);
        told.due("not held at an edge", Drawing.drawn(".b.", "...", "...").held(1, 0), 0);
        CellarPushers small = Drawing.drawn("....", ".b..", "....", "....");
        told.due("price to the edge", small.price(1, 1, 3, 1), 2);
        told.due("price from the edge", small.price(3, 1, 1, 1), -1);
    }

    /** In a cellar 8 wide the next NUMBER at the end of a line is a field at the other side. */
    private void outsideByNumber() {
        String[] rows = {"........", "........", "........", "........", "........", "........", "........", "........"};
        CellarPushers x = Drawing.drawn(rows);
        x.man(7, 3);
        told.due("step east", x.step(EAST), -3);
        x.man(0, 3);
        told.due("step west", x.step(WEST), -3);
        told.due("far across", x.far(7, 2), 8);
        x.man(0, 0);
        told.due("step west of the first", x.step(WEST), -3);
        told.due("step north of the first", x.step(NORTH), -3);
        x.man(7, 7);
        told.due("step east of the last", x.step(EAST), -3);
        told.due("step south of the last", x.step(SOUTH), -3);
        told.due("far from the last", x.far(0, 0), 14);
        x.barrel(7, 3, true);
        told.due("push east", x.push(7, 3, EAST), -5);
        told.due("push west", x.push(7, 3, WEST), -3);
        x.barrel(0, 3, true);
        told.due("push east of the first", x.push(0, 3, EAST), -3);
        told.due("push west of the first", x.push(0, 3, WEST), -5);
        told.due("held at the east", x.held(7, 3), 0);
        x.barrel(7, 2, true);
        told.due("held by one more", x.held(7, 3), 1);
        told.due("price across", x.price(7, 3, 0, 4), -1);
        told.due("price from the first", x.price(0, 3, 7, 2), -1);
        CellarPushers slide = Drawing.drawn("........", "mbssssss", "ssssssss", "........");
        told.due("rolling to the end of the line", slide.step(EAST), 6);
        told.due("there", slide.on(7, 1), 1);
    }

    private void manMayCome() {
        told.quote("The MAN may come onto a field, going a way, if it is no WALL and no GRATE, if a RAMP only its way, "
                + "and if no barrel is on it.");
        String kinds = "#.osg>v<^";
        int[] due = {-3, 0, 0, 0, -3, 0, -3, -3, -3};
        for (int way = 0; way < 4; way++) {
            for (int i = 0; i < due.length; i++) {
                String row = "m" + kinds.charAt(i) + ".";
                told.due("step onto " + row, Drawing.along(way, row).step(way), due[i]);
                CellarPushers x = Drawing.along(way, row);
                told.due("far onto " + row, x.far(Drawing.xAlong(way, row, 1), Drawing.yAlong(way, row, 1)),
                        due[i] == 0 ? 1 : -1);
                told.due("far beyond " + row, x.far(Drawing.xAlong(way, row, 2), Drawing.yAlong(way, row, 2)),
                        due[i] == 0 ? 2 : -1);
            }
            String barrel = "mb.";
            CellarPushers x = Drawing.along(way, barrel);
            told.due("walk onto a barrel",
                    x.walk(Drawing.xAlong(way, barrel, 1), Drawing.yAlong(way, barrel, 1)), -3);
            offRamps(way);
        }
    }

    /** He may leave a RAMP any way. */
    private void offRamps(int rampWay) {
        for (int way = 0; way < 4; way++) {
            CellarPushers x = Drawing.drawn("...", "...", "...");
            x.field(1, 1, 4, rampWay);
            x.man(1, 1);
            told.due("step off a RAMP", x.step(way), 0);
        }
    }

    private void barrelMayCome() {
        told.quote("A BARREL may come onto a field, going a way, if it is no WALL, if a RAMP only its way, and if no "
                + "barrel is on it.");
        String kinds = "#.osg>v<^bhB";
        int[] due = {-5, 1, 1, 1, 1, 1, -5, -5, -5, -5, -5, -5};
        for (int way = 0; way < 4; way++) {
            for (int i = 0; i < due.length; i++) {
                String row = "mb" + kinds.charAt(i) + "#.";
                told.due("step, a barrel onto " + row, Drawing.along(way, row).step(way), due[i]);
                told.due("push, a barrel onto " + row, push(way, row, 1), due[i]);
            }
        }
    }

    private void wantable() {
        told.quote("MARKS and GRATES can be WANTED.");
        CellarPushers x = Drawing.drawn("#.os", ">gvm");
        int[] due = {-2, -2, 0, -2, -2, 0, -2, -2};
        for (int i = 0; i < due.length; i++) {
            told.due("want field " + i, x.want(i % 4, i / 4, true), due[i]);
        }
        told.due("count(2)", x.count(2), 2);
    }

    private void steps() {
        told.quote("A STEP of the man, going a way: onto the next field, if he may come there; or, if a barrel is there, "
                + "a PUSH: he comes onto its field (which must be no GRATE, if a RAMP its way), and it onto the field "
                + "behind that, if it may come there;");
        String kinds = ".osg>v<^";
        int[] due = {1, 1, 1, -4, 1, -4, -4, -4};
        for (int way = 0; way < 4; way++) {
            for (int i = 0; i < due.length; i++) {
                String row = "m" + kinds.charAt(i) + "..";
                CellarPushers x = Drawing.along(way, row);
                x.barrel(Drawing.xAlong(way, row, 1), Drawing.yAlong(way, row, 1), true);
                told.due("step, a barrel on " + row, x.step(way), due[i]);
                told.due("count(3)", x.count(3), due[i] > 0 ? 1 : 0);
                told.due("count(4)", x.count(4), due[i] > 0 ? 1 : 0);
                told.due("where it was", x.on(Drawing.xAlong(way, row, 1), Drawing.yAlong(way, row, 1)),
                        due[i] > 0 ? 2 : 1);
                told.due("behind it", x.on(Drawing.xAlong(way, row, 2), Drawing.yAlong(way, row, 2)),
                        due[i] > 0 ? 1 : 0);
            }
        }
    }

    private void rolling() {
        told.quote("as long as it is then on a SLIDE or RAMP and may come onto the next field the same way, it goes on.");
        String[] rows = {"mb....", "mbs...", "mb>...", "mbs>s.", "mbssss", "mb>>>>", "mbssss.", "mbssssss", "mb>>>>>>",
            "mbs#..", "mbss#.", "mbsb..", "mbs<..", "mbs^..", "mbsv..", "mb>s<.", "mbsgs.", "mbsos.", "mbs.s.", "mbsG",
            "mbsh", "mbsB", "mb.ss.", "mb#ss."};
        int[] due = {1, 2, 2, 4, 4, 4, 5, 6, 6,
            1, 2, 1, 1, 1, 1, 2, 2, 2, 2, 2,
            1, 1, 1, -5};
        for (int i = 0; i < rows.length; i++) {
            for (int way = 0; way < 4; way++) {
                CellarPushers x = Drawing.along(way, rows[i]);
                told.due("step in " + rows[i], x.step(way), due[i]);
                int end = 1 + Math.max(0, due[i]);
                int on = x.on(Drawing.xAlong(way, rows[i], end), Drawing.yAlong(way, rows[i], end));
                told.due("on its end in " + rows[i], on & 3, 1);
            }
        }
        fromSlides();
        told.quote("He goes one field alone.");
        for (int way = 0; way < 4; way++) {
            String row = "mssss";
            CellarPushers x = Drawing.along(way, row);
            told.due("step onto a SLIDE", x.step(way), 0);
            told.due("one field on", x.on(Drawing.xAlong(way, row, 1), Drawing.yAlong(way, row, 1)), 2);
            String push = "mbssss";
            CellarPushers pushed = Drawing.along(way, push);
            pushed.step(way);
            told.due("after a push", pushed.on(Drawing.xAlong(way, push, 1), Drawing.yAlong(way, push, 1)), 2);
        }
    }

    /** It is the field to which it comes that counts, not the one from which it is pushed. */
    private void fromSlides() {
        for (String row : new String[] {"ms..", "m>.."}) {
            for (int way = 0; way < 4; way++) {
                CellarPushers x = Drawing.along(way, row);
                x.barrel(Drawing.xAlong(way, row, 1), Drawing.yAlong(way, row, 1), true);
                told.due("step, a barrel on " + row, x.step(way), 1);
            }
        }
    }

    private void doneAndReady() {
        told.quote("The cellar is DONE if each WANTED field has a barrel (without any, too).");
        told.due("a new one", new CellarPushers(2, 2).isDone(), true);
        told.due("without any", Drawing.drawn("mb.").isDone(), true);
        told.due("MARKS not WANTED", Drawing.drawn("mbo").isDone(), true);
        told.due("one without a barrel", Drawing.drawn("mbO").isDone(), false);
        told.due("one with", Drawing.drawn("mB").isDone(), true);
        told.due("without a man", Drawing.drawn(".B").isDone(), true);
        told.due("one of two", Drawing.drawn("BbO").isDone(), false);
        told.due("the other of two", Drawing.drawn("ObB").isDone(), false);
        told.due("a GRATE", Drawing.drawn("BHb").isDone(), true);
        told.due("a GRATE without", Drawing.drawn("BGb").isDone(), false);
        told.quote("It is READY if the man is in it, there are as many barrels as WANTED fields, and one at least.");
        told.due("a new one", new CellarPushers(2, 2).isReady(), false);
        told.due("one of each", Drawing.drawn("mbO").isReady(), true);
        told.due("without a man", Drawing.drawn(".bO").isReady(), false);
        told.due("none", Drawing.drawn("m.o").isReady(), false);
        told.due("a barrel more", Drawing.drawn("mbbO").isReady(), false);
        told.due("a barrel less", Drawing.drawn("mbOO").isReady(), false);
        told.due("no barrel", Drawing.drawn("m.O").isReady(), false);
        told.due("no WANTED one", Drawing.drawn("mb.").isReady(), false);
        told.due("DONE, too", Drawing.drawn("mBH").isReady(), true);
        told.due("12", Drawing.drawn("bbbbbbbb", "bbbbOOOO", "OOOOOOOO", "m.......").isReady(), true);
        told.due("12 and 13", Drawing.drawn("bbbbbbbb", "bbbbOOOO", "OOOOOOOO", "mO......").isReady(), false);
    }

    private static int price(int way, String row, int from, int to) {
        return Drawing.along(way, row).price(Drawing.xAlong(way, row, from), Drawing.yAlong(way, row, from),
                Drawing.xAlong(way, row, to), Drawing.yAlong(way, row, to));
    }

    private void byItself() {
        told.quote("2. BY ITSELF a barrel on a field can be pushed a way if the field before it (against the way) is one "
                + "onto which a man may ever come (no WALL, no GRATE), he may come onto its own field that way, and it "
                + "onto the next one, no other barrel being anywhere;");
        String kinds = "#.osg>v<^bm";
        int[] before = {-1, 1, 1, 1, -1, 1, 1, 1, 1, 1, 1};
        int[] own = {-2, 1, 1, 1, -1, 1, -1, -1, -1, 1, 1};
        int[] next = {-2, 1, 1, 1, 1, 1, -1, -1, -1, 1, 1};
        for (int way = 0; way < 4; way++) {
            for (int i = 0; i < kinds.length(); i++) {
                char kind = kinds.charAt(i);
                told.due("price, before it " + kind, price(way, kind + "..", 1, 2), before[i]);
                told.due("price, its own " + kind, price(way, "." + kind + ".", 1, 2), own[i]);
                told.due("price, the next " + kind, price(way, ".." + kind, 1, 2), next[i]);
            }
            told.due("price, before it the outside", price(way, "..", 0, 1), -1);
            told.due("price, all taken", price(way, "hbhb", 1, 2), -1);
            told.due("price, barrels all along", price(way, "bbbbb", 1, 4), 3);
        }
    }

    private void stops() {
        told.quote("it may then stop on each field that it goes over.");
        for (int way = 0; way < 4; way++) {
            String row = "..s>s.s.";
            int[] due = {1, 0, 1, 1, 1, 1, 2, 2};
            for (int to = 0; to < due.length; to++) {
                told.due("price in " + row + " to " + to, price(way, row, 1, to), due[to]);
            }
            told.due("price, stopped by a RAMP", price(way, "..ss<.", 1, 3), 1);
            told.due("price, not onto it", price(way, "..ss<.", 1, 4), -1);
            told.due("price, not over it", price(way, "..ss<.", 1, 5), -1);
            told.due("price, onto a GRATE", price(way, "..sgs.", 1, 3), 1);
            told.due("price, not over it", price(way, "..sgs.", 1, 4), -1);
            told.due("price, to the edge", price(way, "..ssssss", 1, 7), 1);
            told.due("price, a GRATE in its way", price(way, "..shss", 1, 5), -1);
        }
        CellarPushers x = Drawing.drawn("..#..", "..s..", "..s..", "..s..", "O....");
        told.due("price, off the midst of a slide", x.price(2, 2, 1, 2), 1);
        CellarPushers off = Drawing.drawn("......", "..sss.", "......", "......");
        told.due("price, stopped and pushed off", off.price(1, 1, 3, 3), 1 + 2);
        CellarPushers taken = Drawing.drawn("..ssss");
        taken.barrel(3, 0, true);
        told.due("price, a barrel in its way", taken.price(1, 0, 5, 0), 1);
        told.due("dead, a MARK in the midst", Drawing.drawn("..sOss").dead(1, 0), 0);
        told.due("dead, may stop on a SLIDE", Drawing.drawn("......", "..sss.", "......", "...O..").dead(1, 1), 0);
    }

    private void deadFields() {
        told.quote("A field is DEAD if it is no WALL, and a barrel on it, however often it is pushed by itself, comes to "
                + "no WANTED field (one on a WANTED field is there).");
        told.due("WALL", Drawing.drawn("#.O").dead(0, 0), 0);
        told.due("WALL, no WANTED one", Drawing.drawn("#..").dead(0, 0), 0);
        told.due("no WANTED one", Drawing.drawn("...").dead(1, 0), 1);
        told.due("a MARK that is not WANTED", Drawing.drawn("..o").dead(1, 0), 1);
        told.due("in a corner, WANTED", Drawing.drawn("O..", "...").dead(0, 0), 0);
        told.due("a WANTED GRATE", Drawing.drawn("G..", "...").dead(0, 0), 0);
        told.due("a GRATE", Drawing.drawn(".gO").dead(1, 0), 1);
        told.due("one push", Drawing.drawn("..O").dead(1, 0), 0);
        told.due("six pushes", Drawing.drawn(".......O").dead(1, 0), 0);
        told.due("from the edge", Drawing.drawn(".......O").dead(0, 0), 1);
        told.due("to the second of two", Drawing.drawn("O#..O").dead(3, 0), 0);
        told.due("barrels and the man in its way", Drawing.drawn("mbbbO").dead(1, 0), 0);
        told.due("the man cannot come there", Drawing.drawn("m#..O").dead(3, 0), 0);
        CellarPushers x = Drawing.drawn(".....", "..#..", ".....", "..O..");
        int[] due = {1, 1, 1, 1, 1, 1, 0, 0, 0, 1, 1, 0, 0, 0, 1, 1, 0, 0, 0, 1};
        for (int i = 0; i < due.length; i++) {
            told.due("dead(" + i % 5 + ", " + i / 5 + ")", x.dead(i % 5, i / 5), due[i]);
        }
    }

    private void heldBarrels() {
        told.quote("HELD are barrels: the most of which each is on a GRATE, or has, on each of both lines through it "
                + "(from north to south, from east to west), on one side or the other a WALL or a HELD barrel beside "
                + "it.");
        told.due("on a GRATE", Drawing.drawn("...", ".h.", "...").held(1, 1), 1);
        told.due("on a WANTED GRATE", Drawing.drawn("...", ".H.", "...").held(1, 1), 1);
        told.due("on a WANTED MARK, free", Drawing.drawn("...", ".B.", "...").held(1, 1), 0);
        told.due("on a WANTED MARK in a corner", Drawing.drawn("B..", "...").held(0, 0), 1);
        told.due("at a wall of one line", Drawing.drawn(".#.", ".b.", "...").held(1, 1), 0);
        told.due("between walls of one line", Drawing.drawn(".#.", ".b.", ".#.").held(1, 1), 0);
        told.due("walls of both", Drawing.drawn(".#.", ".b#", "...").held(1, 1), 1);
        told.due("other sides of both", Drawing.drawn("...", "#b.", ".#.").held(1, 1), 1);
        told.due("aslant", Drawing.drawn("#.#", ".b.", "#.#").held(1, 1), 0);
        told.due("a field under the man is none", Drawing.drawn(".#.", ".bm", "...").held(1, 1), 0);
        told.due("a RAMP is none", Drawing.drawn(".>.", ".b^", "...").held(1, 1), 0);
        told.due("a GRATE beside is none", Drawing.drawn(".#.", ".bg", "...").held(1, 1), 0);
        told.due("a HELD one beside", Drawing.drawn(".#.", ".bh", "...").held(1, 1), 1);
        told.due("a free one beside", Drawing.drawn(".#..", ".bb.", "....").held(1, 1), 0);
        told.due("all of a square", Drawing.drawn("....", ".bb.", ".bb.", "....").held(2, 1), 1);
        told.due("all of a row of walls", Drawing.drawn("####", ".bb.", "....").held(2, 1), 1);
    }

    /** A long chain: the last one makes all the others free, or holds them. */
    private void heldInLines() {
        String[] rows = {"......", ".bb...", "..bb..", "...bb.", "....bb", "......"};
        CellarPushers x = Drawing.drawn(rows);
        told.due("the end of a stair", x.held(5, 4), 0);
        told.due("its beginning", x.held(1, 1), 0);
        x.field(1, 0, 0, 0);
        told.due("a WALL at its beginning", x.held(1, 1), 0);
        x.field(5, 5, 0, 0);
        told.due("WALLS at both", x.held(1, 1), 1);
        told.due("the end, too", x.held(5, 4), 1);
        told.due("and in the midst", x.held(3, 2), 1);
        x.barrel(3, 3, false);
        told.due("one taken off", x.held(1, 1), 0);
        told.due("at the edge still", x.held(5, 4), 1);
        CellarPushers twelve = Drawing.drawn(".......", ".bbbb..", ".bbbb..", ".bbbb..", ".......");
        told.due("12 in a block", twelve.held(2, 2), 1);
        twelve.barrel(1, 1, false);
        told.due("11 of it", twelve.held(2, 1), 1);
        told.due("a side of it", twelve.held(1, 2), 1);
    }

    private void prices() {
        told.quote("3. The least number of pushes by themselves that bring a barrel from a field to another one is their "
                + "PRICE (0 to itself).");
        String kinds = ".os>v<^gGb";
        for (int i = 0; i < kinds.length(); i++) {
            CellarPushers x = Drawing.drawn("" + kinds.charAt(i) + "#", "##");
            told.due("price of " + kinds.charAt(i) + " to itself", x.price(0, 0, 0, 0), 0);
        }
        CellarPushers x = Drawing.drawn("......", ".sss..", ".#....", ".....g");
        told.due("one", x.price(1, 1, 2, 1), 1);
        told.due("one, sliding", x.price(1, 1, 4, 1), 1);
        told.due("two ways", x.price(2, 1, 2, 2), 1);
        told.due("back", x.price(4, 1, 1, 1), 1);
        told.due("back, all along", x.price(4, 2, 1, 1), 2);
        told.due("none", x.price(0, 1, 1, 1), -1);
        told.due("none from a GRATE", x.price(5, 3, 4, 3), -1);
        told.due("three, to a GRATE", x.price(3, 2, 5, 3), 3);
    }

    private void lows() {
        told.quote("LOW is the least sum of PRICES by which each barrel can be given a WANTED field of its own; there may "
                + "be none.");
        told.due("on its own", Drawing.drawn("mB").low(), 0);
        told.due("one", Drawing.drawn("mb.O").low(), 2);
        told.due("none", Drawing.drawn("bm.O").low(), -1);
        told.due("none for one of two", Drawing.drawn("b.....", "mb..O.", "....O.").low(), -1);
        told.due("not both to one", Drawing.drawn("mb.bO#O").low(), -1);
        told.due("each its own", Drawing.drawn("mb.bOO").low(), 5);
        told.due("one there that may stay", Drawing.drawn("........", "mb.B.O..", "........").low(), 4);
        CellarPushers x = Drawing.drawn("........", "...bb...", "........", "........", "m.......", "........");
        for (int[] at : new int[][] {{4, 3}, {3, 4}}) {
            x.field(at[0], at[1], 2, 0);
            x.want(at[0], at[1], true);
        }
        told.due("the other way round is dearer", x.low(), 2 + 3);
    }
}
