/** A cellar of 30 fields whose plan has more than 400 ways; found by a long search that changed cellars at random. */
final class LongPlan {
    static final int PUSHES = 58;
    static final int STEPS = 411;

    private static final String[] ROWS = {"########", "###..O##", "##..#o##", "##.sss##", "s.sss.s#", "s#<.#o.#", "soOsOs##",
        "####..##"};
    private static final int[][] BARRELS = {{3, 4}, {3, 5}, {1, 6}};
    private static final int MAN_X = 2;
    private static final int MAN_Y = 6;

    private LongPlan() {
    }

    static CellarPushers cellar() {
        CellarPushers x = Drawing.drawn(ROWS);
        x.man(MAN_X, MAN_Y);
        for (int[] at : BARRELS) {
            x.barrel(at[0], at[1], true);
        }
        return x;
    }

    static PlainCellar plain() {
        CellarPushers model = cellar();
        PlainCellar x = new PlainCellar(8, 8);
        for (int i = 0; i < 64; i++) {
            boolean isRamp = model.kind(i % 8, i / 8) == 4;
            x.field(i % 8, i / 8, model.kind(i % 8, i / 8), isRamp ? Drawing.WEST : 0);
            if ((model.on(i % 8, i / 8) & 4) != 0) {
                x.want(i % 8, i / 8, true);
            }
        }
        x.man(MAN_X, MAN_Y);
        for (int[] at : BARRELS) {
            x.barrel(at[0], at[1], true);
        }
        return x;
    }
}
