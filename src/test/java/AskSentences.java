import java.util.Random;

/** The sentences of promises 13 to 23: what can be asked of a cellar. */
final class AskSentences {
    private static final int EAST = Drawing.EAST;
    private static final int[][] OUTSIDE = {{-1, 0}, {3, 0}, {0, -1}, {0, 2}, {8, 0}, {-1, 1}, {-8, 1},
        {Integer.MIN_VALUE, 0}, {0, Integer.MAX_VALUE}, {0, 1 << 29}};

    private final Sentences told;

    AskSentences(Sentences told) {
        this.told = told;
    }

    void test() {
        kinds();
        whatIsOn();
        fars();
        doneCellars();
        readyCellars();
        deadFields();
        heldBarrels();
        spoiltCellars();
        neverDone();
        whys();
        lows();
        prices();
    }

    private void kinds() {
        told.in("Promise 13");
        told.quote("The KIND of a field (0 in a LINE that is MISSING).");
        CellarPushers x = Drawing.drawn("#.os>gb", "......m");
        int[] due = {0, 1, 2, 3, 4, 5, 1};
        for (int i = 0; i < due.length; i++) {
            told.due("kind", x.kind(i, 0), due[i]);
        }
        told.due("kind under the man", x.kind(6, 1), 1);
        x.barrel(6, 0, false);
        x.line(0, true);
        for (int i = 0; i < due.length; i++) {
            told.due("kind, MISSING", x.kind(i, 0), 0);
        }
        told.quote("-2 when there is no such field.");
        CellarPushers small = Drawing.drawn("...", "...");
        small.line(0, true);
        for (int[] at : OUTSIDE) {
            told.due("kind outside", small.kind(at[0], at[1]), -2);
        }
    }

    private void whatIsOn() {
        told.in("Promise 14");
        told.quote("What is on a field: 0 nothing, 1 a barrel, 2 the man; 4 more if it is WANTED.");
        CellarPushers x = Drawing.drawn(".bmOBGH#", "oghs>...");
        int[] due = {0, 1, 2, 4, 5, 4, 5, 0, 0, 0, 1, 0, 0, 0, 0, 0};
        for (int i = 0; i < due.length; i++) {
            told.due("on", x.on(i % 8, i / 8), due[i]);
        }
        x.man(3, 0);
        told.due("on, the man on a WANTED one", x.on(3, 0), 6);
        told.due("on, where he was", x.on(2, 0), 0);
        CellarPushers line = Drawing.drawn("...", "...");
        line.line(0, true);
        told.due("on a LINE that is MISSING", line.on(0, 0), 0);
        told.quote("-2 when there is no such field.");
        for (int[] at : OUTSIDE) {
            told.due("on the outside", line.on(at[0], at[1]), -2);
        }
    }

    private void fars() {
        told.in("Promise 15");
        told.quote("The fewest steps by which the man can walk to a field; -1 when he can not.");
        CellarPushers x = Drawing.drawn("m.#.g", ".b>..", "#.#<.", "..b..");
        int[] due = {0, 1, -1, -1, -1, 1, -1, -1, -1, -1, -1, -1, -1, -1, -1, -1, -1, -1, -1, -1};
        for (int i = 0; i < due.length; i++) {
            told.due("far(" + i % 5 + ", " + i / 5 + ")", x.far(i % 5, i / 5), due[i]);
        }
        x.barrel(1, 1, false);
        int[] then = {0, 1, -1, 5, -1, 1, 2, 3, 4, 5, -1, 3, -1, 7, 6, 5, 4, -1, 8, 7};
        for (int i = 0; i < then.length; i++) {
            told.due("then far(" + i % 5 + ", " + i / 5 + ")", x.far(i % 5, i / 5), then[i]);
        }
        told.quote("-2 when he is not in the cellar, or there is no such field.");
        CellarPushers small = Drawing.drawn("m..", "...");
        for (int[] at : OUTSIDE) {
            told.due("far to the outside", small.far(at[0], at[1]), -2);
        }
        told.due("far without a man", Drawing.drawn("...").far(0, 0), -2);
        told.due("far without a man, WALL", Drawing.drawn("#..").far(0, 0), -2);
        told.due("far without a man, outside", Drawing.drawn("...").far(3, 0), -2);
    }

    private void doneCellars() {
        told.in("Promise 16");
        told.quote("Whether the cellar is DONE.");
        CellarPushers x = Drawing.drawn("mb.", "..O");
        told.due("isDone", x.isDone(), false);
        x.barrel(2, 1, true);
        told.due("isDone, a barrel on it", x.isDone(), true);
        x.barrel(2, 1, false);
        told.due("isDone, none on it", x.isDone(), false);
        x.want(2, 1, false);
        told.due("isDone, none WANTED", x.isDone(), true);
        CellarPushers pushed = Drawing.drawn("mbO");
        pushed.step(EAST);
        told.due("isDone, pushed", pushed.isDone(), true);
        pushed.undo();
        told.due("isDone, undone", pushed.isDone(), false);
        pushed.redo();
        told.due("isDone, done again", pushed.isDone(), true);
    }

    private void readyCellars() {
        told.in("Promise 17");
        told.quote("Whether it is READY.");
        CellarPushers x = Drawing.drawn("...", ".oo");
        told.due("isReady, nothing there", x.isReady(), false);
        x.man(0, 0);
        told.due("isReady, the man", x.isReady(), false);
        x.barrel(1, 0, true);
        told.due("isReady, a barrel", x.isReady(), false);
        x.want(1, 1, true);
        told.due("isReady, a WANTED field", x.isReady(), true);
        x.want(2, 1, true);
        told.due("isReady, two", x.isReady(), false);
        x.barrel(2, 1, true);
        told.due("isReady, two and two", x.isReady(), true);
        told.due("isReady, no man", Drawing.drawn(".bO").isReady(), false);
    }

    private void deadFields() {
        told.in("Promise 18");
        told.quote("1 if a field is DEAD, else 0.");
        CellarPushers x = Drawing.drawn("....#", "..O..", ".....", "g...>");
        int[] due = {1, 1, 1, 1, 0, 1, 0, 0, 0, 1, 1, 0, 0, 0, 1, 1, 1, 1, 1, 1};
        for (int i = 0; i < due.length; i++) {
            told.due("dead(" + i % 5 + ", " + i / 5 + ")", x.dead(i % 5, i / 5), due[i]);
        }
        told.due("dead, the first field", largeWith(3, 3, 7, 7).dead(0, 0), 1);
        told.due("dead, the last field, WANTED", largeWith(3, 3, 7, 7).dead(7, 7), 0);
        told.due("dead, the first field, WANTED", largeWith(3, 3, 0, 0).dead(0, 0), 0);
        told.due("dead, the last field", largeWith(3, 3, 0, 0).dead(7, 7), 1);
        told.due("dead, to the last field", largeWith(3, 3, 7, 7).dead(1, 7), 0);
        told.due("dead, to the first field", largeWith(3, 3, 0, 0).dead(0, 6), 0);
        told.quote("-2 when there is no such field.");
        for (int[] at : OUTSIDE) {
            told.due("dead outside", Drawing.drawn("...", "..O").dead(at[0], at[1]), -2);
        }
    }

    private void heldBarrels() {
        told.in("Promise 19");
        told.quote("1 if a barrel on a field is HELD, else 0 (also without one).");
        told.due("held in a corner", Drawing.drawn("b..", "...").held(0, 0), 1);
        told.due("held, free", Drawing.drawn("...", ".b.", "...").held(1, 1), 0);
        told.due("held, a corner without one", Drawing.drawn("...", "...").held(0, 0), 0);
        told.due("held, a GRATE without one", Drawing.drawn("...", ".g.", "...").held(1, 1), 0);
        told.due("held, WALL", Drawing.drawn("#..", "...").held(0, 0), 0);
        told.due("held, the man in a corner", Drawing.drawn("m..", "...").held(0, 0), 0);
        CellarPushers line = Drawing.drawn("...", "...", ".b.");
        line.line(1, true);
        told.due("held, between MISSING and outside", line.held(1, 2), 0);
        line.field(0, 2, 0, 0);
        told.due("held, a WALL beside it", line.held(1, 2), 1);
        told.due("held, in a MISSING line", line.held(0, 1), 0);
        told.due("held, the last field", largeWith(7, 7, 0, 0).held(7, 7), 1);
        told.due("held, the first field", largeWith(0, 0, 0, 0).held(0, 0), 1);
        told.quote("-2 when there is no such field.");
        for (int[] at : OUTSIDE) {
            told.due("held outside", Drawing.drawn("bbb", "...").held(at[0], at[1]), -2);
        }
    }

    private void spoiltCellars() {
        told.in("Promise 20");
        told.quote("If the cellar is READY: 1 when a barrel is on a DEAD field, else 2 when one that is HELD is on a "
                + "field that is not WANTED, else 0.");
        told.due("well", Drawing.drawn("mb.O").spoilt(), 0);
        told.due("DONE", Drawing.drawn("mB").spoilt(), 0);
        told.due("on a DEAD field", Drawing.drawn("b.mO").spoilt(), 1);
        told.due("on a GRATE not WANTED", Drawing.drawn("mh.O").spoilt(), 1);
        told.due("held on WANTED ones", Drawing.drawn("BH", "m.").spoilt(), 0);
        told.due("both WANTED and free", Drawing.drawn("....", ".Bb.", "mO..").spoilt(), 0);
        String[] square = {"......", ".bb...", ".bbm..", "......", "OOOO.."};
        told.due("held, not WANTED", Drawing.drawn(square).spoilt(), 2);
        String[] three = {"......", ".bB...", ".BBm..", "......", "..O..."};
        told.due("held, one not WANTED", Drawing.drawn(three).spoilt(), 2);
        String[] both = {".....b", ".bb...", ".bbm..", "......", "OOOOO."};
        told.due("both DEAD and HELD", Drawing.drawn(both).spoilt(), 1);
        String[] all = {"......", ".BB...", ".BBm..", "......", "......"};
        told.due("held, all WANTED", Drawing.drawn(all).spoilt(), 0);
        told.due("again", Drawing.drawn(all).spoilt(), 0);
        told.quote("-2 when it is not READY.");
        told.due("no man", Drawing.drawn(".bO").spoilt(), -2);
        told.due("no barrel", Drawing.drawn("m.O").spoilt(), -2);
        told.due("none at all", Drawing.drawn("m..").spoilt(), -2);
        told.due("a barrel more", Drawing.drawn("bbmO").spoilt(), -2);
        told.due("a barrel less", Drawing.drawn("bmOO").spoilt(), -2);
    }

    private void neverDone() {
        told.quote("(If it is 1 or 2, it is never DONE by steps from here.)");
        told.due("fewest, DEAD", Drawing.drawn("....", "bm.O").fewest(), -1);
        told.due("fewest, HELD", Drawing.drawn(".....", ".#b..", ".bbm.", ".....", "OOO..").fewest(), -1);
        int spoilt = 0;
        for (int seed = 0; seed < 400; seed++) {
            CellarPushers x = someCellar(new Random(seed));
            if (x.spoilt() > 0) {
                spoilt++;
                told.due("fewest of cellar " + seed, x.fewest(), -1);
            } else if (x.fewest() > 0) {
                x.follow();
                told.due("spoilt of cellar " + seed + ", DONE", x.spoilt(), 0);
            }
        }
        told.due("many of them are spoilt", spoilt > 40, true);
    }

    private static CellarPushers someCellar(Random random) {
        CellarPushers x = new CellarPushers(6, 5);
        for (int i = 0; i < 30; i++) {
            int kind = Math.max(0, random.nextInt(14) - 8);
            x.field(i % 6, i / 6, kind == 0 ? 1 : kind, kind == 4 ? random.nextInt(4) : 0);
        }
        for (int tries = 0; tries < 60 && x.count(2) < 3; tries++) {
            x.want(random.nextInt(6), random.nextInt(5), true);
        }
        for (int tries = 0; tries < 60 && x.count(1) < x.count(2); tries++) {
            x.barrel(1 + random.nextInt(4), 1 + random.nextInt(3), true);
        }
        for (int tries = 0; tries < 20 && x.count(8) < 0; tries++) {
            x.man(random.nextInt(6), random.nextInt(5));
        }
        return x;
    }

    private void whys() {
        told.in("Promise 21");
        told.quote("The NUMBER of the least field with a barrel of which the latest spoilt() that was not refused told 1 "
                + "or 2, as it was then;");
        CellarPushers x = Drawing.drawn(".m.b.", "....b", "..b..", "O.OO.");
        told.due("spoilt, two DEAD", x.spoilt(), 1);
        told.due("why, the least of them", x.why(), 3);
        x.barrel(3, 0, false);
        told.due("why, taken off", x.why(), 3);
        told.due("spoilt, refused", x.spoilt(), -2);
        told.due("why, after a refused one", x.why(), 3);
        x.want(2, 3, false);
        told.due("spoilt, the other DEAD one", x.spoilt(), 1);
        told.due("why, the other", x.why(), 12);
        String[] square = {"......", ".bB...", ".Bbm..", "....b.", "O.....", "O....."};
        CellarPushers held = Drawing.drawn(square);
        told.due("spoilt, not READY", held.spoilt(), -2);
        told.due("why, before the first one", held.why(), -1);
        held.barrel(4, 3, false);
        told.due("spoilt, HELD", held.spoilt(), 2);
        told.due("why, the least of two not WANTED", held.why(), 9);
        told.due("why, again", held.why(), 9);
        held.barrel(1, 1, false);
        held.barrel(5, 5, true);
        told.due("spoilt, DEAD, too", held.spoilt(), 1);
        told.due("why, the last field", held.why(), 45);
        String[] later = {".b....", ".bb...", ".bbm..", "......", "OOOOO."};
        CellarPushers both = Drawing.drawn(later);
        told.due("spoilt, DEAD before HELD", both.spoilt(), 1);
        told.due("why, the DEAD one", both.why(), 1);
        String[] before = {"......", ".bb...", ".bbm..", ".....b", "OOOOO."};
        CellarPushers after = Drawing.drawn(before);
        told.due("spoilt, DEAD after HELD", after.spoilt(), 1);
        told.due("why, the DEAD one, not the least HELD one", after.why(), 29);
        CellarPushers large = largeWith(7, 7, 0, 0);
        told.due("spoilt, the last of 64", large.spoilt(), 1);
        told.due("why, the last of 64", large.why(), 63);
        told.quote("-1 when it told neither, and before the first one.");
        told.due("why, before the first one", new CellarPushers(2, 2).why(), -1);
        after.barrel(5, 3, false);
        after.want(4, 4, false);
        after.barrel(2, 2, false);
        after.want(3, 4, false);
        told.due("spoilt, well", after.spoilt(), 0);
        told.due("why", after.why(), -1);
        CellarPushers corner = Drawing.drawn("b.m", "..O");
        told.due("spoilt, the first field", corner.spoilt(), 1);
        told.due("why, the first field", corner.why(), 0);
    }

    private void lows() {
        told.in("Promise 22");
        told.quote("LOW; -1 when there is none.");
        told.due("low", Drawing.drawn("mb.O").low(), 2);
        told.due("low, all there", Drawing.drawn("mBH").low(), 0);
        told.due("low, none", Drawing.drawn("bm.O").low(), -1);
        told.due("low, none for one of them", Drawing.drawn("b..m.", ".b.O.", "...O.").low(), -1);
        String[] twelve = {"........", ".bbbbbb.", ".bbbbbb.", "........", ".OOOOOO.", ".OOOOOO.", "m.......", "........"};
        told.due("low of 12", Drawing.drawn(twelve).low(), 12 * 3);
        String[] cross = {"........", "........", "..b..b..", "..O.....", "..O.....", "m.......", "........"};
        told.due("low, the farther one for the nearer", Drawing.drawn(cross).low(), 2 + 4);
        String[] only = {"........", "mb.b.OsO", "........"};
        told.due("low, by slides", Drawing.drawn(only).low(), 4 + 3);
        told.due("low, there on the first field", Drawing.drawn("B.m").low(), 0);
        told.due("low, to the first field", Drawing.drawn("O.bm").low(), 2);
        told.due("low, there on the last field", largeWith(7, 7, 7, 7).low(), 0);
        told.due("low, to the last field", largeWith(3, 7, 7, 7).low(), 4);
        told.quote("-2 when the cellar is not READY.");
        told.due("low, no man", Drawing.drawn(".bO").low(), -2);
        told.due("low, no barrel", Drawing.drawn("m.O").low(), -2);
        told.due("low, none at all", Drawing.drawn("m..").low(), -2);
        told.due("low, a barrel more", Drawing.drawn("mbbO").low(), -2);
        told.due("low, a barrel less", Drawing.drawn("mbOO").low(), -2);
        String[] more = {"mbbbbbb.", ".bbbbbb.", "OOOOOOO.", "OOOOOO.."};
        told.due("low, 12 and 13", Drawing.drawn(more).low(), -2);
    }

    /** 64 fields, one WANTED, one with a barrel. */
    private static CellarPushers largeWith(int barrelX, int barrelY, int x, int y) {
        String row = "........";
        CellarPushers large = Drawing.drawn(row, row, row, row, row, row, row, row);
        large.field(x, y, 2, 0);
        large.want(x, y, true);
        large.barrel(barrelX, barrelY, true);
        large.man(4, 4);
        return large;
    }

    private void prices() {
        told.in("Promise 23");
        told.quote("The PRICE from a field to another one; -1 when there is none.");
        CellarPushers x = Drawing.drawn("......", ".ss.<.", "..#..g", "......");
        told.due("price to itself", x.price(2, 1, 2, 1), 0);
        told.due("price, one", x.price(1, 1, 3, 1), 1);
        told.due("price, two", x.price(1, 3, 3, 3), 2);
        told.due("price, against a RAMP", x.price(3, 1, 4, 1), -1);
        told.due("price, along it", x.price(4, 1, 1, 1), 2);
        told.due("price, off the edge", x.price(0, 1, 1, 1), -1);
        told.due("price, along the edge", x.price(1, 0, 4, 0), 3);
        told.due("price, onto a GRATE", x.price(3, 2, 5, 2), -1);
        told.due("price, off a GRATE", x.price(5, 2, 4, 2), -1);
        told.due("price of a GRATE to itself", x.price(5, 2, 5, 2), 0);
        told.quote("-2 when there is no such field, or one is WALL.");
        CellarPushers small = Drawing.drawn(".#.", "...", "...");
        for (int[] at : new int[][] {{-1, 0}, {3, 0}, {0, -1}, {0, 3}, {8, 0}, {-1, 1}, {0, 1 << 29}}) {
            told.due("price from the outside", small.price(at[0], at[1], 1, 1), -2);
            told.due("price to the outside", small.price(1, 1, at[0], at[1]), -2);
            told.due("price of the outside", small.price(at[0], at[1], at[0], at[1]), -2);
        }
        told.due("price from WALL", small.price(1, 0, 1, 1), -2);
        told.due("price to WALL", small.price(1, 1, 1, 0), -2);
        told.due("price of WALL to itself", small.price(1, 0, 1, 0), -2);
        small.line(2, true);
        told.due("price to a MISSING line", small.price(1, 1, 1, 2), -2);
        told.due("price from a MISSING line", small.price(1, 2, 1, 1), -2);
    }
}
