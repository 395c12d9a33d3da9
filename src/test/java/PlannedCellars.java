import java.util.ArrayList;
import java.util.Collections;
import java.util.List;
import java.util.Random;

/** Random cellars, always the same ones, of connected fields: plans and what follows from them, by both programs. */
public final class PlannedCellars {
    private static final int[] DX = {0, 1, 0, -1};
    private static final int[] DY = {-1, 0, 1, 0};

    private final Random random;
    private final int width;
    private final int height;
    private final CellarPushers asked;
    private final PlainCellar plain;
    private final List<Integer> fields = new ArrayList<>();
    private boolean wrong;

    private PlannedCellars(long seed) {
        random = new Random(seed);
        width = 4 + random.nextInt(5);
        height = 4 + random.nextInt(5);
        asked = new CellarPushers(width, height);
        plain = new PlainCellar(width, height);
    }

    public static void main(String[] args) {
        int cellars = args.length > 0 ? Integer.parseInt(args[0]) : 600;
        int first = args.length > 1 ? Integer.parseInt(args[1]) : 0;
        int solved = 0;
        int failed = 0;
        for (int seed = first; seed < first + cellars; seed++) {
            PlannedCellars cellar = new PlannedCellars(seed);
            cellar.furnish();
            solved += cellar.askAndFollow() ? 1 : 0;
            if (cellar.wrong) {
                failed++;
                System.out.println("wrong in the cellar of seed " + seed);
            }
        }
        if (solved < cellars / 4) {
            failed++;
            System.out.println("only " + solved + " have a plan");
        }
        System.out.println("PlannedCellars: " + (cellars - failed) + " passed, " + failed + " failed");
        if (failed != 0) {
            System.exit(1);
        }
    }

    private void same(int got, int due) {
        wrong |= got != due;
    }

    private void growFields(int size) {
        fields.add(height / 2 * width + width / 2);
        while (fields.size() < Math.min(size, width * height)) {
            int from = fields.get(random.nextInt(fields.size()));
            int way = random.nextInt(4);
            int x = from % width + DX[way];
            int y = from / width + DY[way];
            if (x >= 0 && x < width && y >= 0 && y < height && !fields.contains(y * width + x)) {
                fields.add(y * width + x);
            }
        }
    }

    private void furnish() {
        int barrels = 1 + random.nextInt(3);
        growFields(24 - 4 * barrels + random.nextInt(8));
        int oddness = random.nextInt(4);
        for (int at : fields) {
            int kind = random.nextInt(10) < oddness ? 1 + random.nextInt(5) : 1 + random.nextInt(2);
            int way = kind == 4 ? random.nextInt(4) : 0;
            same(asked.field(at % width, at / width, kind, way), plain.field(at % width, at / width, kind, way));
        }
        Collections.shuffle(fields, random);
        for (int at : fields) {
            if (plain.count(2) < barrels) {
                same(asked.want(at % width, at / width, true), plain.want(at % width, at / width, true));
            }
        }
        Collections.shuffle(fields, random);
        for (int at : fields) {
            if (plain.count(1) < barrels && plain.dead(at % width, at / width) == 0
                    && plain.on(at % width, at / width) == 0) {
                same(asked.barrel(at % width, at / width, true), plain.barrel(at % width, at / width, true));
            }
        }
        Collections.shuffle(fields, random);
        for (int at : fields) {
            if (plain.count(8) < 0) {
                same(asked.man(at % width, at / width), plain.man(at % width, at / width));
            }
        }
    }

    private boolean askAndFollow() {
        int fewest = asked.fewest();
        same(fewest, plain.fewest());
        same(asked.low(), plain.low());
        same(asked.spoilt(), plain.spoilt());
        same(asked.steps(), plain.steps());
        for (int i = 0; i <= plain.steps(); i++) {
            same(asked.plan(i), plain.plan(i));
        }
        if (fewest <= 0) {
            return false;
        }
        int steps = asked.steps();
        same(asked.copy(), steps);
        same(asked.check(), 1000 + steps);
        same(asked.follow(), steps);
        same(asked.isDone() ? 1 : 0, 1);
        same(asked.count(3), steps);
        same(asked.count(4), fewest);
        same(asked.fewest(), 0);
        same(asked.undo(), 0);
        same(asked.fewest(), fewest);
        same(asked.low() <= fewest ? 1 : 0, asked.low() >= 0 ? 1 : 0);
        same(asked.spoilt(), 0);
        return true;
    }
}
