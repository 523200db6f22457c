/** Counts and prints answers that are not as due; tests that look at many answers of one object inherit its words. */
class Check {
    static final int FAR = 100000, BAD = -1, SPENT = -2, NONE = -1, REFUSED = -3;

    private static int wrong = 0;
    private static int looked = 0;
    private static String told = "";

    /** Says which sentence of which part of the document the answers that follow are about. */
    static void of(String part, String sentence) {
        told = part + ", '" + sentence + "': ";
    }

    static void due(String call, long got, long want) {
        looked++;
        if (got != want) {
            wrong++;
            if (wrong <= 50) {
                System.out.println(told + call + " answered " + got + ", due is " + want);
            }
        }
    }

    static void due(String call, boolean got, boolean want) {
        due(call, got ? 1 : 0, want ? 1 : 0);
    }

    static void yes(String call, boolean got) {
        due(call, got, true);
    }

    static void no(String call, boolean got) {
        due(call, got, false);
    }

    static void dueCost(String what, CorridorCells c, long upper, long lower) {
        due(what + ": cost(0)", c.cost(0), upper);
        due(what + ": cost(1)", c.cost(1), lower);
    }

    /** Ends are the upper and lower part of the least weight, then those of the greatest. */
    static void dueSpan(String what, CorridorCells c, int aim, long... ends) {
        for (int i = 0; i < 4; i++) {
            due(what + ": span(" + aim + ", " + i / 2 + ", " + i % 2 + ")", c.span(aim, i / 2, i % 2), ends[i]);
        }
    }

    /** The cells of the way at hand are those of x, y, x, y, .. and no more. */
    static void dueWay(String what, CorridorCells c, int... xy) {
        for (int i = 0; i < xy.length; i++) {
            due(what + ": at(" + i / 2 + ", " + i % 2 + ")", c.at(i / 2, i % 2), xy[i]);
        }
        due(what + ": behind its end", c.at(xy.length / 2, 0), BAD);
    }

    /** A grid by its rows: '#' is barred, '1' to '3' is barred with a bridge of that most and no cents. */
    static CorridorCells drawn(String... rows) {
        CorridorCells c = new CorridorCells(rows[0].length(), rows.length);
        for (int y = 0; y < rows.length; y++) {
            for (int x = 0; x < rows[y].length(); x++) {
                char sign = rows[y].charAt(x);
                due("drawn: bar(" + x + ", " + y + ")", sign != '.' && c.bar(x, y), sign != '.');
                boolean isBridge = sign >= '1' && sign <= '3';
                due("drawn: bridge(" + x + ", " + y + ", ..)", isBridge && c.bridge(x, y, sign - '0', 0), isBridge);
            }
        }
        return c;
    }

    /**
     * From (2, 1) to (0, 0) the only way has 6 moves: by (3, 0) to (4, 0), where it turns by 8, since it has to come to
     * the bridges straight, and by (3, 0) again over both to the end.
     */
    static CorridorCells thereAndBack() {
        return drawn(
            ".21..",
            "##.##");
    }

    static boolean hasWrong() {
        return wrong > 0;
    }

    static void end() {
        String all = looked + (wrong == 0 ? " answers are as due" : " answers are not as due");
        System.out.println(wrong == 0 ? all : wrong + " of " + all);
        if (wrong != 0) {
            System.exit(1);
        }
    }
}
