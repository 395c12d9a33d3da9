/** Cellars as drawn. */
final class Drawing {
    static final int NORTH = 0;
    static final int EAST = 1;
    static final int SOUTH = 2;
    static final int WEST = 3;

    private Drawing() {
    }

    /**
     * A cellar as drawn: # WALL, . FLOOR, o MARK, O a WANTED one, s SLIDE, ^ &gt; v &lt; RAMP, g GRATE, G a WANTED
     * one, m the man on FLOOR, b a barrel on FLOOR, B on a WANTED MARK, h on a GRATE, H on a WANTED one.
     */
    static CellarPushers drawn(String... rows) {
        CellarPushers cellar = new CellarPushers(rows[0].length(), rows.length);
        for (int y = 0; y < rows.length; y++) {
            for (int x = 0; x < rows[y].length(); x++) {
                draw(cellar, x, y, rows[y].charAt(x));
            }
        }
        return cellar;
    }

    /** One row of signs, laid from its first sign on along a way; ramps are drawn as if that way were east. */
    static CellarPushers along(int way, String row) {
        boolean lies = way == EAST || way == WEST;
        CellarPushers cellar = new CellarPushers(lies ? row.length() : 2, lies ? 2 : row.length());
        for (int i = 0; i < row.length(); i++) {
            char sign = row.charAt(i);
            char turned = wayOf(sign) < 0 ? sign : "^>v<".charAt((wayOf(sign) + way + 3) % 4);
            draw(cellar, xAlong(way, row, i), yAlong(way, row, i), turned);
        }
        return cellar;
    }

    static int xAlong(int way, String row, int i) {
        return way == EAST ? i : way == WEST ? row.length() - 1 - i : 0;
    }

    static int yAlong(int way, String row, int i) {
        return way == SOUTH ? i : way == NORTH ? row.length() - 1 - i : 0;
    }

    private static void draw(CellarPushers cellar, int x, int y, char sign) {
        if (sign != '#') {
            cellar.field(x, y, kindOf(sign), Math.max(0, wayOf(sign)));
        }
        if ("OBGH".indexOf(sign) >= 0) {
            cellar.want(x, y, true);
        }
        if ("bBhH".indexOf(sign) >= 0) {
            cellar.barrel(x, y, true);
        }
        if (sign == 'm') {
            cellar.man(x, y);
        }
    }

    private static int wayOf(char sign) {
        return "^>v<".indexOf(sign);
    }

    private static int kindOf(char sign) {
        if (wayOf(sign) >= 0) {
            return 4;
        }
        return switch (sign) {
            case '.', 'm', 'b' -> 1;
            case 'o', 'O', 'B' -> 2;
            case 's' -> 3;
            case 'g', 'G', 'h', 'H' -> 5;
            default -> throw new IllegalArgumentException("no such sign: " + sign);
        };
    }
}
