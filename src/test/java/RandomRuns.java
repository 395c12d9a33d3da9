import java.util.ArrayList;
import java.util.List;
import java.util.Map;
import java.util.Random;
import java.util.TreeMap;

/** Random runs of calls, always the same ones, on a CellarPushers and on a PlainCellar: both must answer alike. */
public final class RandomRuns {
    private static final int CALLS = 512;
    /** Eight times some of these is a field's number again, by int's wrap-around. */
    private static final int[] FAR_OFF = {Integer.MIN_VALUE, Integer.MAX_VALUE, -8, 64, 1 << 29, (1 << 29) + 1,
        (1 << 30) + 2, -(1 << 29), Integer.MIN_VALUE + 1, 1 << 16};

    private final Random random;
    private final int width;
    private final int height;
    private final boolean small;
    private final CellarPushers asked;
    private final PlainCellar plain;
    private final List<String> told = new ArrayList<>();
    private final Map<String, Integer> answers;
    private boolean wrong;

    private RandomRuns(long seed, Map<String, Integer> answers) {
        this.answers = answers;
        random = new Random(seed);
        small = seed % 4 != 0;
        width = small ? 2 + random.nextInt(5) : random.nextInt(12) - 1;
        height = small ? 2 + random.nextInt(5) : random.nextInt(12) - 1;
        asked = new CellarPushers(width, height);
        plain = new PlainCellar(width, height);
    }

    public static void main(String[] args) {
        int runs = args.length > 0 ? Integer.parseInt(args[0]) : 3000;
        int first = args.length > 1 ? Integer.parseInt(args[1]) : 0;
        Map<String, Integer> answers = new TreeMap<>();
        int failed = 0;
        for (int seed = first; seed < first + runs && failed < 3; seed++) {
            failed += new RandomRuns(seed, answers).run() ? 0 : 1;
        }
        failed += missingAnswers(answers);
        if (args.length > 2) {
            System.out.println(answers);
        }
        System.out.println("RandomRuns: " + (runs - failed) + " passed, " + failed + " failed");
        if (failed != 0) {
            System.exit(1);
        }
    }

    /** Runs which never come to an answer test nothing of it. */
    private static int missingAnswers(Map<String, Integer> answers) {
        String[] due = {"step -2", "step -3", "step -4", "step -5", "step 0", "step +", "walk -2", "walk -3", "walk 0",
            "walk +", "push -2", "push -3", "push -4", "push -5", "push +", "can +", "undo -2", "undo 0", "undo +",
            "redo -2", "redo 0", "redo +", "far -1", "far -2", "far +", "isDone 0", "isDone +", "isReady 0", "isReady +",
            "dead 0", "dead +", "held 0", "held +", "spoilt -2", "spoilt 0", "spoilt 1", "spoilt 2", "why -1", "why +",
            "low -2", "low -1", "low 0", "low +", "price -2", "price -1", "price 0", "price +", "fewest -2", "fewest -1",
            "fewest 0", "fewest +", "follow -2", "follow +", "tell -2", "tell +", "copy 0", "copy +", "forge -2",
            "forge +", "hush 0", "hush +", "check -2", "check 0", "check +", "line -2", "line 0", "line +", "want -2",
            "want 0", "want +", "man -2", "man 0", "man +", "barrel -2", "barrel 0", "barrel +"};
        int missing = 0;
        for (String answer : due) {
            if (answers.getOrDefault(answer, 0) < 5) {
                missing++;
                System.out.println("hardly ever answered: " + answer);
            }
        }
        return missing;
    }

    private boolean run() {
        layGround();
        furnish();
        askPlan();
        while (told.size() < CALLS && !wrong) {
            anyCall();
        }
        if (wrong) {
            System.out.println("new CellarPushers(" + width + ", " + height + ")");
            told.forEach(System.out::println);
        }
        return !wrong;
    }

    private void same(String call, int got, int due) {
        if (told.size() >= CALLS) {
            return;
        }
        told.add(call + " answered " + got + (got == due ? "" : ", due is " + due));
        String name = call.substring(0, call.indexOf('('));
        boolean whole = got <= 0 || name.equals("spoilt");
        answers.merge(name + " " + (whole ? "" + got : "+"), 1, Integer::sum);
        wrong |= got != due;
    }

    private int x() {
        return random.nextInt(25) == 0 ? outside(12) : random.nextInt(Math.max(2, Math.min(8, width)));
    }

    private int y() {
        return random.nextInt(25) == 0 ? outside(12) : random.nextInt(Math.max(2, Math.min(8, height)));
    }

    private int way() {
        return random.nextInt(30) == 0 ? outside(8) : random.nextInt(4);
    }

    private int outside(int about) {
        boolean isFar = random.nextInt(4) == 0;
        return isFar ? FAR_OFF[random.nextInt(FAR_OFF.length)] : random.nextInt(about) - 2;
    }

    private void layGround() {
        int oddness = random.nextInt(4);
        for (int y = 0; y < 8 && y < Math.max(2, height); y++) {
            for (int x = 0; x < 8 && x < Math.max(2, width); x++) {
                setKind(x, y, kindOf(oddness), random.nextInt(4));
            }
        }
    }

    private int kindOf(int oddness) {
        int dice = random.nextInt(20);
        if (dice < 3) {
            return 0;
        }
        return dice < 20 - 3 * oddness ? 1 + random.nextInt(2) : 1 + random.nextInt(5);
    }

    private void setKind(int x, int y, int kind, int way) {
        int fitting = kind == 4 ? way : 0;
        same("field(" + x + ", " + y + ", " + kind + ", " + fitting + ")",
                asked.field(x, y, kind, fitting), plain.field(x, y, kind, fitting));
    }

    private void furnish() {
        int barrels = small ? 1 + random.nextInt(3) : random.nextInt(8);
        for (int tries = 0; tries < 30 && plain.count(2) < barrels; tries++) {
            setWanted(x(), y(), true);
        }
        for (int tries = 0; tries < 60 && plain.count(1) < barrels; tries++) {
            int x = x();
            int y = y();
            if (plain.dead(x, y) == 0 && (plain.on(x, y) == 0 || random.nextInt(5) == 0)) {
                setBarrel(x, y, true);
            }
        }
        for (int tries = 0; tries < 10 && plain.count(8) < 0; tries++) {
            setMan(x(), y());
        }
    }

    private void setBarrel(int x, int y, boolean on) {
        same("barrel(" + x + ", " + y + ", " + on + ")", asked.barrel(x, y, on), plain.barrel(x, y, on));
    }

    private void setWanted(int x, int y, boolean is) {
        same("want(" + x + ", " + y + ", " + is + ")", asked.want(x, y, is), plain.want(x, y, is));
    }

    private void setMan(int x, int y) {
        same("man(" + x + ", " + y + ")", asked.man(x, y), plain.man(x, y));
    }

    private void anyCall() {
        int dice = random.nextInt(100);
        if (dice < 8) {
            change(x(), y());
        } else if (dice < 55) {
            move(x(), y(), way());
        } else if (dice < 85) {
            ask(x(), y());
        } else {
            tapeCall(way());
        }
    }

    private void change(int x, int y) {
        boolean is = random.nextBoolean();
        switch (random.nextInt(6)) {
            case 0 -> setKind(x, y, random.nextInt(8) - 1, way());
            case 1 -> {
                int kind = random.nextInt(6);
                int way = random.nextInt(6) - 1;
                same("field(" + x + ", " + y + ", " + kind + ", " + way + ")",
                        asked.field(x, y, kind, way), plain.field(x, y, kind, way));
            }
            case 2 -> same("line(" + y + ", " + is + ")", asked.line(y, is), plain.line(y, is));
            case 3 -> {
                setBarrel(x, y, is);
                evenOut();
            }
            case 4 -> setMan(x, y);
            default -> {
                setWanted(x, y, is);
                evenOut();
            }
        }
    }

    /** Most cellars should be READY, or there is little to ask. */
    private void evenOut() {
        for (int tries = 0; tries < 12 && plain.count(1) != plain.count(2); tries++) {
            boolean more = plain.count(1) > plain.count(2);
            int x = x();
            int y = y();
            if (random.nextBoolean()) {
                setWanted(x, y, more);
            } else if (plain.dead(x, y) == 0 || random.nextInt(10) == 0) {
                setBarrel(x, y, !more);
            }
        }
    }

    private int[] someBarrel() {
        List<int[]> all = new ArrayList<>();
        for (int y = 0; y < 8; y++) {
            for (int x = 0; x < 8; x++) {
                if ((plain.on(x, y) & 1) == 1 && plain.on(x, y) > 0) {
                    all.add(new int[] {x, y});
                }
            }
        }
        return all.isEmpty() ? new int[] {x(), y()} : all.get(random.nextInt(all.size()));
    }

    private void move(int x, int y, int way) {
        int[] barrel = random.nextInt(8) == 0 ? new int[] {x, y} : someBarrel();
        String push = "(" + barrel[0] + ", " + barrel[1] + ", " + way + ")";
        switch (random.nextInt(11)) {
            case 0, 1 -> same("step(" + way + ")", asked.step(way), plain.step(way));
            case 2 -> same("walk(" + x + ", " + y + ")", asked.walk(x, y), plain.walk(x, y));
            case 3, 4 -> same("push" + push, asked.push(barrel[0], barrel[1], way),
                    plain.push(barrel[0], barrel[1], way));
            case 5 -> same("can" + push, asked.can(barrel[0], barrel[1], way), plain.can(barrel[0], barrel[1], way));
            case 6, 7, 8 -> same("undo()", asked.undo(), plain.undo());
            case 9 -> same("redo()", asked.redo(), plain.redo());
            default -> same("follow()", asked.follow(), plain.follow());
        }
        same("count(8)", asked.count(8), plain.count(8));
    }

    private boolean isSearchCheap() {
        int open = plain.count(0);
        int barrels = plain.count(1);
        return open <= 13 || barrels == 1 || barrels == 2 && open <= 20 || barrels > 3 || open > 30
                || random.nextInt(40) == 0;
    }

    private void ask(int x, int y) {
        int toX = x();
        int toY = y();
        int what = random.nextInt(20) == 0 ? outside(12) : random.nextInt(11) - 1;
        switch (random.nextInt(12)) {
            case 0 -> same("kind(" + x + ", " + y + ")", asked.kind(x, y), plain.kind(x, y));
            case 1 -> same("on(" + x + ", " + y + ")", asked.on(x, y), plain.on(x, y));
            case 2 -> same("far(" + x + ", " + y + ")", asked.far(x, y), plain.far(x, y));
            case 3 -> {
                same("isDone()", asked.isDone() ? 1 : 0, plain.isDone() ? 1 : 0);
                same("isReady()", asked.isReady() ? 1 : 0, plain.isReady() ? 1 : 0);
            }
            case 4 -> same("dead(" + x + ", " + y + ")", asked.dead(x, y), plain.dead(x, y));
            case 5 -> {
                int[] barrel = someBarrel();
                same("held(" + x + ", " + y + ")", asked.held(x, y), plain.held(x, y));
                same("held(" + barrel[0] + ", " + barrel[1] + ")",
                        asked.held(barrel[0], barrel[1]), plain.held(barrel[0], barrel[1]));
            }
            case 6 -> {
                same("spoilt()", asked.spoilt(), plain.spoilt());
                same("why()", asked.why(), plain.why());
            }
            case 7 -> same("low()", asked.low(), plain.low());
            case 8 -> same("price(" + x + ", " + y + ", " + toX + ", " + toY + ")",
                    asked.price(x, y, toX, toY), plain.price(x, y, toX, toY));
            case 9 -> askPlan();
            default -> same("count(" + what + ")", asked.count(what), plain.count(what));
        }
    }

    private void askPlan() {
        if (!isSearchCheap()) {
            return;
        }
        same("fewest()", asked.fewest(), plain.fewest());
        same("steps()", asked.steps(), plain.steps());
        for (int i = -1; i <= plain.steps(); i++) {
            same("plan(" + i + ")", asked.plan(i), plain.plan(i));
        }
        if (random.nextInt(3) == 0) {
            same("copy()", asked.copy(), plain.copy());
            same("check()", asked.check(), plain.check());
        }
        if (random.nextInt(4) == 0) {
            same("follow()", asked.follow(), plain.follow());
        }
    }

    private void tapeCall(int way) {
        int i = random.nextInt(20) == 0 ? outside(12) : random.nextInt(6) - 1;
        switch (random.nextInt(7)) {
            case 0, 1 -> same("tell(" + way + ")", asked.tell(way), plain.tell(way));
            case 2 -> same("copy()", asked.copy(), plain.copy());
            case 3 -> same("forge(" + i + ", " + way + ")", asked.forge(i, way), plain.forge(i, way));
            case 4 -> {
                if (random.nextInt(5) == 0) {
                    same("hush()", asked.hush(), plain.hush());
                }
            }
            default -> same("check()", asked.check(), plain.check());
        }
    }
}
