/** All that can be learnt of a cellar, as one text. */
final class Everything {
    private static final int MOST_SHOWN = 6;

    private final CellarPushers cellar;
    private final StringBuilder text = new StringBuilder();
    private int width;
    private int height;

    private Everything(CellarPushers cellar) {
        this.cellar = cellar;
        while (cellar.kind(width, 0) >= 0) {
            width++;
        }
        while (cellar.kind(0, height) >= 0) {
            height++;
        }
    }

    /** The cellar is spent by it: all is undone, the tape forged and no line missing at the end. */
    static String of(CellarPushers cellar) {
        Everything everything = new Everything(cellar);
        everything.tellActs();
        everything.tellFields();
        everything.tellAnswers();
        everything.tellTape();
        everything.tellLines();
        return everything.text.toString();
    }

    private void tell(String name, int answer) {
        text.append(name).append(' ').append(answer).append(", ");
    }

    private void tellFields() {
        for (int y = 0; y < height; y++) {
            for (int x = 0; x < width; x++) {
                text.append('(').append(x).append(' ').append(y).append(") ");
                tell("kind", cellar.kind(x, y));
                tell("on", cellar.on(x, y));
                tell("far", cellar.far(x, y));
                tell("dead", cellar.dead(x, y));
                tell("held", cellar.held(x, y));
                tell("price", cellar.price(0, 0, x, y));
            }
        }
    }

    private void tellAnswers() {
        for (int what = 0; what <= 8; what++) {
            tell("count " + what, cellar.count(what));
        }
        tell("isDone", cellar.isDone() ? 1 : 0);
        tell("isReady", cellar.isReady() ? 1 : 0);
        tell("why", cellar.why());
        tell("low", cellar.low());
        tell("check", cellar.check());
        tell("steps", cellar.steps());
        for (int i = 0; i < MOST_SHOWN && i < cellar.steps(); i++) {
            tell("plan", cellar.plan(i));
        }
    }

    private void tellTape() {
        int last = cellar.count(7) - 1;
        for (int i = 0; i < MOST_SHOWN && i <= last; i++) {
            tell("tape", cellar.forge(i, 0));
        }
        tell("end of the tape", cellar.forge(last, 0));
    }

    /** Told first, so that no question can have changed before what can be done again. */
    private void tellActs() {
        tellMoment();
        int more = cellar.redo();
        for (int i = 0; i < MOST_SHOWN && more >= 0; i++) {
            tell("redo", more);
            tellMoment();
            more = cellar.redo();
        }
        int less = cellar.undo();
        for (int i = 0; i < MOST_SHOWN && less >= 0; i++) {
            tell("undo", less);
            tellMoment();
            less = cellar.undo();
        }
    }

    private void tellMoment() {
        tell("steps", cellar.count(3));
        tell("pushes", cellar.count(4));
        tell("acts", cellar.count(6));
        for (int i = 0; i < width * height; i++) {
            text.append(cellar.on(i % width, i / width));
        }
        text.append(", ");
    }

    private void tellLines() {
        for (int y = 0; y < height; y++) {
            tell("line", cellar.line(y, false));
            for (int x = 0; x < width; x++) {
                tell("kind", cellar.kind(x, y));
                tell("price", cellar.price(0, 0, x, y));
            }
        }
    }
}
