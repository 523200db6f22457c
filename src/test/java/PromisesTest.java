/** For each promise of the document its ordinary answers, its edges and its refusals, worked out by hand. */
public final class PromisesTest extends Check {
    public static void main(String[] args) {
        promise01NewObject();
        promise01Defaults();
        promise02Cell();
        promise03Bar();
        promise04Moves();
        promise04Slope();
        promise05Aim();
        promise06Weight();
        promise07RunTies();
        promise07RunNumbers();
        promise07RunRefused();
        promise07RunLabels();
        promise08At();
        promise09Cost();
        promise10Bound();
        promise11Proved();
        promise12Unlike();
        promise12Limits();
        promise12Refused();
        promise12FewestShared();
        promise13Span();
        promise13SpanOfBridges();
        promise14Bridge();
        promise14Straight();
        promise15Mark();
        promise16Zone();
        promise17Sum();
        promise18Turns();
        promise19Keeps();
        end();
    }

    private static void promise01NewObject() {
        due("BAD", CorridorCells.BAD, -1);
        due("SPENT", CorridorCells.SPENT, -2);
        int[] told = {Integer.MIN_VALUE, -1, 0, 1, 2, 11, 12, 13, Integer.MAX_VALUE};
        int[] made = {1, 1, 1, 1, 2, 11, 12, 12, 12};
        for (int i = 0; i < told.length; i++) {
            CorridorCells c = new CorridorCells(told[i], told[told.length - 1 - i]);
            int w = made[i];
            int h = made[told.length - 1 - i];
            yes("last cell of " + w + " by " + h, c.cell(w - 1, h - 1, 1, 1));
            no("cell right of " + w + " by " + h, c.cell(w, h - 1, 1, 1));
            no("cell below " + w + " by " + h, c.cell(w - 1, h, 1, 1));
        }
    }

    private static void promise01Defaults() {
        CorridorCells c = new CorridorCells(3, 2);
        due("reach is 1", c.run(0, 0, 2, 1, FAR), 2);
        dueCost("costs are 0", c, 0, 1);
        yes("cell(1, 0, 0, 9999)", c.cell(1, 0, 0, 9999));
        due("slope is 9,999", c.run(0, 0, 1, 0, FAR), 1);
        // cells 1, 2, 3 in a row, cell 0 cut off: by a turn of 8 each heading has a label, 8 of each cell
        CorridorCells row = new CorridorCells(4, 1);
        yes("weight(0, 20, 1)", row.weight(0, 20, 1));
        yes("cell(0, 0, 0, 50)", row.cell(0, 0, 0, 50));
        yes("moves(1, 49, 8)", row.moves(1, 49, 8));
        due("23 labels of 24", row.run(0, 0, 3, 0, 23), SPENT);
        due("24 labels of 24", row.run(0, 0, 3, 0, 24), -1);
        yes("moves(1, 49, 7)", row.moves(1, 49, 7));
        due("21 labels of 22", row.run(0, 0, 3, 0, 21), SPENT);
        due("22 labels of 22", row.run(0, 0, 3, 0, 22), -1);
        // where nothing is told, the turn is 8 too: cells 0 and 1 beside a barred one
        CorridorCells fresh = new CorridorCells(6, 1);
        yes("bar(2, 0)", fresh.bar(2, 0));
        due("23 labels of 24", fresh.run(0, 0, 5, 0, 23), SPENT);
        due("24 labels of 24", fresh.run(0, 0, 5, 0, 24), -1);
    }

    private static void promise02Cell() {
        CorridorCells c = new CorridorCells(2, 1);
        yes("cell(1, 0, 7, 3)", c.cell(1, 0, 7, 3));
        int[][] wrong = {{-1, 0, 1, 1}, {2, 0, 1, 1}, {1, -1, 1, 1}, {1, 1, 1, 1}, {1, 0, -1, 1}, {1, 0, 1000, 1},
            {1, 0, 1, -1}, {1, 0, 1, 10000}, {Integer.MAX_VALUE, Integer.MAX_VALUE, 1, 1}};
        for (int[] w : wrong) {
            no("cell(" + w[0] + ", " + w[1] + ", " + w[2] + ", " + w[3] + ")", c.cell(w[0], w[1], w[2], w[3]));
        }
        due("run over it", c.run(0, 0, 1, 0, FAR), 1);
        dueCost("refused cells change nothing", c, 70, 1);
        yes("moves(1, 2, 8)", c.moves(1, 2, 8));
        due("level 3 is too high", c.run(0, 0, 1, 0, FAR), -1);
        yes("cell(1, 0, 999, 9999)", c.cell(1, 0, 999, 9999));
        yes("moves(1, 9999, 8)", c.moves(1, 9999, 8));
        due("run over the greatest", c.run(0, 0, 1, 0, FAR), 1);
        dueCost("the greatest cost", c, 9990, 1);
        yes("cell(1, 0, 0, 0)", c.cell(1, 0, 0, 0));
        dueCost("the least cost", c, 0, 1);
    }

    private static void promise03Bar() {
        CorridorCells c = new CorridorCells(3, 1);
        no("bar(-1, 0)", c.bar(-1, 0));
        no("bar(3, 0)", c.bar(3, 0));
        no("bar(0, 1)", c.bar(0, 1));
        no("bar(0, -1)", c.bar(0, -1));
        due("nothing is barred", c.run(0, 0, 2, 0, FAR), 2);
        yes("bar(1, 0)", c.bar(1, 0));
        no("bar(1, 0) again", c.bar(1, 0));
        due("no way by a barred cell", c.run(0, 0, 2, 0, FAR), -1);
        yes("moves(2, 9999, 8)", c.moves(2, 9999, 8));
        due("none by knights in one row", c.run(0, 0, 2, 0, FAR), -1);
        due("to a barred cell", c.run(0, 0, 1, 0, FAR), -3);
        due("from a barred cell", c.run(1, 0, 2, 0, FAR), -3);
        CorridorCells jump = new CorridorCells(3, 2);
        yes("bar(1, 0)", jump.bar(1, 0));
        yes("bar(1, 1)", jump.bar(1, 1));
        yes("moves(2, 9999, 8)", jump.moves(2, 9999, 8));
        due("a long move looks only at where it comes to", jump.run(0, 0, 2, 1, FAR), 1);
    }

    private static void promise04Moves() {
        CorridorCells c = new CorridorCells(5, 3);
        int[][] wrong = {{0, 1, 1}, {3, 1, 1}, {-1, 1, 1}, {1, -1, 1}, {1, 10000, 1}, {1, 1, -1}, {1, 1, 9},
            {Integer.MAX_VALUE, 1, 1}, {1, Integer.MIN_VALUE, 1}, {1, 1, Integer.MAX_VALUE}};
        yes("moves(2, 9999, 0)", c.moves(2, 9999, 0));
        for (int[] w : wrong) {
            no("moves(" + w[0] + ", " + w[1] + ", " + w[2] + ")", c.moves(w[0], w[1], w[2]));
        }
        due("two long moves without a turn", c.run(0, 0, 4, 2, FAR), 2);
        due("their heading", c.at(2, 2), 1);
        due("no way straight to there", c.run(0, 0, 3, 1, FAR), -1);
        yes("moves(2, 0, 1)", c.moves(2, 0, 1));
        due("a little turn", c.run(0, 0, 3, 1, FAR), 2);
        dueWay("the lesser cell first", c, 0, 0, 1, 0, 3, 1);
        yes("moves(1, 0, 1)", c.moves(1, 0, 1));
        due("even headings differ by 2 at least", c.run(0, 0, 3, 1, FAR), -1);
        yes("moves(1, 0, 2)", c.moves(1, 0, 2));
        due("one turn of 2", c.run(0, 0, 3, 1, FAR), 3);
        due("its turns", c.turns(), 1);
    }

    private static void promise04Slope() {
        // the straight move rises by 10; by the cell beside it there are two rises of 5, headings 0 and 6
        CorridorCells c = new CorridorCells(2, 2);
        yes("cell(1, 0, 0, 5)", c.cell(1, 0, 0, 5));
        yes("cell(0, 1, 0, 10)", c.cell(0, 1, 0, 10));
        yes("bar(1, 1)", c.bar(1, 1));
        yes("moves(1, 10, 8)", c.moves(1, 10, 8));
        due("a slope of 10", c.run(0, 0, 0, 1, FAR), 1);
        yes("moves(1, 9, 8)", c.moves(1, 9, 8));
        due("a slope of 9", c.run(0, 0, 0, 1, FAR), 2);
        yes("moves(1, 5, 6)", c.moves(1, 5, 6));
        due("a slope of 5 and a turn of 6", c.run(0, 0, 0, 1, FAR), 2);
        due("down again", c.run(0, 1, 0, 0, FAR), 2);
        yes("moves(1, 5, 5)", c.moves(1, 5, 5));
        due("a turn of 5", c.run(0, 0, 0, 1, FAR), -1);
        yes("moves(1, 4, 8)", c.moves(1, 4, 8));
        due("a slope of 4", c.run(0, 0, 0, 1, FAR), -1);
    }

    private static void promise05Aim() {
        CorridorCells c = new CorridorCells(2, 1);
        for (int aim = 0; aim < 4; aim++) {
            yes("aim(aim, 1, 0, 2)", c.aim(aim, 1, 0, 2));
            yes("weight(aim, aim + 1, 1)", c.weight(aim, aim + 1, 1));
        }
        no("aim(-1, 1, 0, 9)", c.aim(-1, 1, 0, 9));
        no("aim(4, 1, 0, 9)", c.aim(4, 1, 0, 9));
        no("aim(0, 2, 0, 9)", c.aim(0, 2, 0, 9));
        no("aim(0, -1, 0, 9)", c.aim(0, -1, 0, 9));
        no("aim(0, 1, 1, 9)", c.aim(0, 1, 1, 9));
        no("aim(0, 1, -1, 9)", c.aim(0, 1, -1, 9));
        no("aim(0, 1, 0, -1)", c.aim(0, 1, 0, -1));
        no("aim(0, 1, 0, 1000)", c.aim(0, 1, 0, 1000));
        no("aim(0, 1, 0, 2^32)", c.aim(0, 1, 0, 1L << 32));
        no("aim(0, 1, 0, least long)", c.aim(0, 1, 0, Long.MIN_VALUE));
        due("run", c.run(0, 0, 1, 0, FAR), 1);
        dueCost("all aims with their weights", c, 10 * 2 * (1 + 2 + 3 + 4), 1);
        yes("aim(1, 1, 0, 999)", c.aim(1, 1, 0, 999));
        dueCost("the greatest value", c, 10 * (2 * (1 + 3 + 4) + 2 * 999), 1);
        yes("aim(1, 1, 0, 0)", c.aim(1, 1, 0, 0));
        dueCost("the least value", c, 10 * 2 * (1 + 3 + 4), 1);
        yes("aim(0, 0, 0, 500)", c.aim(0, 0, 0, 500));
        dueCost("the first cell costs nothing", c, 160, 1);
    }

    private static void promise06Weight() {
        CorridorCells c = new CorridorCells(2, 2);
        yes("aim(0, 1, 0, 1)", c.aim(0, 1, 0, 1));
        yes("aim(1, 1, 0, 1)", c.aim(1, 1, 0, 1));
        due("run", c.run(0, 0, 1, 0, FAR), 1);
        dueCost("weights are 0 at first", c, 0, 1);
        yes("weight(0, 1, 6)", c.weight(0, 1, 6));
        dueCost("a sixth", c, 5, 3);
        yes("weight(1, 3, 4)", c.weight(1, 3, 4));
        dueCost("11 twelfths", c, 55, 6);
        no("weight(-1, 1, 1)", c.weight(-1, 1, 1));
        no("weight(4, 1, 1)", c.weight(4, 1, 1));
        no("weight(0, -1, 1)", c.weight(0, -1, 1));
        no("weight(0, 21, 1)", c.weight(0, 21, 1));
        no("weight(0, 1, 0)", c.weight(0, 1, 0));
        no("weight(0, 1, 7)", c.weight(0, 1, 7));
        no("weight(0, 1, -1)", c.weight(0, 1, -1));
        no("weight(0, 2^32, 1)", c.weight(0, 1L << 32, 1));
        no("weight(0, 1, 2^32 + 1)", c.weight(0, 1, (1L << 32) + 1));
        dueCost("refused weights change nothing", c, 55, 6);
        yes("weight(1, 0, 6)", c.weight(1, 0, 6));
        yes("weight(0, 20, 5)", c.weight(0, 20, 5));
        dueCost("20 fifths", c, 40, 1);
        yes("weight(0, 20, 1)", c.weight(0, 20, 1));
        yes("aim(0, 1, 1, 1)", c.aim(0, 1, 1, 1));
        due("costs by weights choose the way", c.run(0, 0, 1, 1, FAR), 2);
        dueWay("two short moves cost 200, one long one 280", c, 0, 0, 0, 1, 1, 1);
    }

    private static void promise07RunTies() {
        // cells 0 .. 2 above, 3 .. 5 below; by less cost the way goes below
        CorridorCells c = new CorridorCells(3, 2);
        yes("cell(1, 0, 9, 0)", c.cell(1, 0, 9, 0));
        due("less cost", c.run(0, 0, 2, 0, FAR), 2);
        dueWay("less cost", c, 0, 0, 1, 1, 2, 0);
        yes("cell(1, 1, 1, 0)", c.cell(1, 1, 1, 0));
        due("short moves are cheaper", c.run(0, 0, 2, 0, FAR), 3);
        dueWay("10 by the short move, and of two ways with fewer moves", c, 0, 0, 0, 1, 1, 1, 2, 0);
        yes("cell(1, 0, 0, 0)", c.cell(1, 0, 0, 0));
        due("straight", c.run(0, 0, 2, 0, FAR), 2);
        dueWay("straight", c, 0, 0, 1, 0, 2, 0);
        // fewer turns go before fewer moves
        CorridorCells square = new CorridorCells(3, 3);
        yes("bar(1, 0)", square.bar(1, 0));
        yes("bar(1, 1)", square.bar(1, 1));
        due("two turns and six moves", square.run(0, 0, 2, 0, FAR), 6);
        due("two turns", square.turns(), 2);
        dueWay("round", square, 0, 0, 0, 1, 0, 2, 1, 2, 2, 2, 2, 1, 2, 0);
        // the lesser cell where ways differ first, though the next ones are greater
        CorridorCells tie = new CorridorCells(4, 3);
        due("one turn", tie.run(0, 0, 3, 1, FAR), 3);
        dueWay("lesser cells", tie, 0, 0, 1, 0, 2, 0, 3, 1);
        due("and back", tie.run(3, 1, 0, 0, FAR), 3);
        dueWay("lesser cells back", tie, 3, 1, 2, 0, 1, 0, 0, 0);
    }

    private static void promise07RunNumbers() {
        CorridorCells c = new CorridorCells(12, 12);
        due("corner to corner", c.run(0, 0, 11, 11, FAR), 11);
        due("one heading", c.at(11, 2), 2);
        yes("moves(2, 9999, 0)", c.moves(2, 9999, 0));
        for (int heading = 0; heading < 16; heading++) {
            int x = 5 + 2 * PlainCells.HEADINGS[heading][0];
            int y = 5 + 2 * PlainCells.HEADINGS[heading][1];
            yes("cell", c.cell(x, y, 1, 0));
            due("two moves by heading " + heading, c.run(5, 5, x, y, FAR), 2);
            due("their heading", c.at(1, 2), heading);
            due("their length", c.cost(0), heading % 2 == 1 ? 22 : heading % 4 == 0 ? 10 : 14);
        }
    }

    private static void promise07RunRefused() {
        CorridorCells c = new CorridorCells(3, 2);
        yes("bar(2, 1)", c.bar(2, 1));
        yes("bridge(2, 1, 3, 0)", c.bridge(2, 1, 3, 0));
        due("run", c.run(0, 0, 2, 0, FAR), 2);
        long[][] wrong = {{-1, 0, 2, 0, 9}, {0, -1, 2, 0, 9}, {3, 0, 2, 0, 9}, {0, 2, 2, 0, 9}, {0, 0, 3, 0, 9},
            {0, 0, -1, 0, 9}, {0, 0, 2, 2, 9}, {0, 0, 2, -1, 9}, {0, 0, 2, 0, 0}, {0, 0, 2, 0, -1}, {0, 0, 2, 0, 100001},
            {0, 0, 2, 0, Long.MAX_VALUE}, {0, 0, 2, 0, Long.MIN_VALUE}, {0, 0, 2, 0, (1L << 32) + 5}, {0, 0, 0, 0, 9},
            {0, 0, 2, 1, 9}, {2, 1, 0, 0, 9}};
        for (long[] w : wrong) {
            due("run refused", c.run((int) w[0], (int) w[1], (int) w[2], (int) w[3], w[4]), -3);
            due("the way stays", c.at(2, 0), 2);
            yes("proved stays", c.proved());
            due("bound stays", c.bound(), 0);
        }
        due("nodes stay", c.unlike(0, 1), 2);
        due("found ones stay", c.unlike(1, 1), 2);
    }

    private static void promise07RunLabels() {
        // closed: 8 of the end, one of the middle without a turn, then of the first cell heading 0, then 16
        CorridorCells c = new CorridorCells(3, 1);
        due("10 labels", c.run(0, 0, 2, 0, 10), SPENT);
        due("no way at hand", c.turns(), BAD);
        due("none is found", c.unlike(1, 1), -3);
        due("11 labels", c.run(0, 0, 2, 0, 11), 2);
        due("1 label", c.run(0, 0, 2, 0, 1), SPENT);
        due("reach 2 has 16 of the end", c.moves(2, 9999, 8) ? c.run(0, 0, 2, 0, 18) : 0, SPENT);
        due("and one more is enough", c.run(0, 0, 2, 0, 19), 2);
        yes("bar(1, 0)", c.bar(1, 0));
        due("only those of the end, one too few", c.run(0, 0, 2, 0, 15), SPENT);
        due("all labels closed: there is none", c.run(0, 0, 2, 0, 16), -1);
        due("no way at hand", c.at(0, 0), BAD);
        // a bridged cell of most 3 has three labels by heading 0; the first cell follows from that of R 1 alone
        yes("bridge(1, 0, 3, 0)", c.bridge(1, 0, 3, 0));
        due("16 of the end, 3 of the bridge, 1 of the first cell", c.run(0, 0, 2, 0, 20), SPENT);
        due("and that without a heading", c.run(0, 0, 2, 0, 21), 2);
    }

    private static void promise08At() {
        CorridorCells c = new CorridorCells(4, 3);
        due("at(0, 0) without a way", c.at(0, 0), BAD);
        yes("moves(2, 9999, 8)", c.moves(2, 9999, 8));
        due("run", c.run(3, 2, 0, 0, FAR), 2);
        int[][] places = {{3, 2, 16}, {1, 1, 9}, {0, 0, 10}};
        for (int k = 0; k < 3; k++) {
            for (int axis = 0; axis < 3; axis++) {
                due("at(" + k + ", " + axis + ")", c.at(k, axis), places[k][axis]);
            }
            due("at(" + k + ", -1)", c.at(k, -1), BAD);
            due("at(" + k + ", 3)", c.at(k, 3), BAD);
        }
        due("at(-1, 0)", c.at(-1, 0), BAD);
        due("at(3, 0)", c.at(3, 0), BAD);
        due("at(greatest, 0)", c.at(Integer.MAX_VALUE, 0), BAD);
        due("at(least, 0)", c.at(Integer.MIN_VALUE, 0), BAD);
        due("at(0, greatest)", c.at(0, Integer.MAX_VALUE), BAD);
    }

    private static void promise09Cost() {
        CorridorCells c = new CorridorCells(3, 1);
        due("cost(0) without a way", c.cost(0), BAD);
        due("run", c.run(0, 0, 2, 0, FAR), 2);
        dueCost("nothing", c, 0, 1);
        due("cost(-1)", c.cost(-1), BAD);
        due("cost(2)", c.cost(2), BAD);
        yes("cell(1, 0, 3, 0)", c.cell(1, 0, 3, 0));
        yes("cell(0, 0, 8, 0)", c.cell(0, 0, 8, 0));
        dueCost("costs as they are now", c, 30, 1);
        yes("aim(2, 1, 0, 7)", c.aim(2, 1, 0, 7));
        yes("weight(2, 3, 4)", c.weight(2, 3, 4));
        dueCost("30 and 10 times 21 / 4", c, 165, 2);
        yes("bar(1, 0)", c.bar(1, 0));
        dueCost("a barred cell costs as before", c, 165, 2);
        yes("bridge(1, 0, 1, 6)", c.bridge(1, 0, 1, 6));
        dueCost("a bridged one its cents alone", c, 60, 1);
        yes("bridge(2, 0, 1, 9)", c.bridge(2, 0, 1, 9));
        dueCost("a bridge where none is barred counts for nothing", c, 60, 1);
        due("no run", c.run(0, 0, 2, 0, 1), SPENT);
        due("cost(0) behind it", c.cost(0), BAD);
    }

    private static void promise10Bound() {
        CorridorCells c = new CorridorCells(3, 1);
        due("bound() at first", c.bound(), -1);
        due("a refused run", c.run(0, 0, 0, 0, 9), -3);
        due("a refused unlike", c.unlike(1, 1), -3);
        due("bound() is still none", c.bound(), -1);
        yes("aim(0, 2, 0, 1)", c.aim(0, 2, 0, 1));
        yes("weight(0, 5, 3)", c.weight(0, 5, 3));
        due("run", c.run(0, 0, 2, 0, FAR), 2);
        due("50 thirds are cut off", c.bound(), 16);
        yes("weight(0, 20, 1)", c.weight(0, 20, 1));
        due("bound() stays", c.bound(), 16);
        due("labels of the end cost nothing", c.run(0, 0, 2, 0, 8), SPENT);
        due("bound()", c.bound(), 0);
        due("the next one costs 200", c.run(0, 0, 2, 0, 9), SPENT);
        due("bound()", c.bound(), 200);
        yes("bar(1, 0)", c.bar(1, 0));
        due("none", c.run(0, 0, 2, 0, FAR), -1);
        due("bound() of none", c.bound(), 0);
    }

    private static void promise11Proved() {
        CorridorCells c = new CorridorCells(3, 1);
        no("proved() at first", c.proved());
        due("run", c.run(0, 0, 2, 0, FAR), 2);
        yes("a way", c.proved());
        due("refused", c.run(0, 0, 9, 0, FAR), -3);
        yes("as before", c.proved());
        due("no other way", c.unlike(0, 1), -1);
        yes("that there is none", c.proved());
        due("spent", c.run(0, 0, 2, 0, 5), SPENT);
        no("not known", c.proved());
        due("refused", c.unlike(1, 1), -3);
        no("still not known", c.proved());
        due("11 labels are enough at first", c.run(0, 0, 2, 0, 11), 2);
        due("but not for a way that shares none", c.unlike(0, 1), SPENT);
        no("not known", c.proved());
        due("the way at hand stays", c.turns(), 0);
    }

    private static void promise12Unlike() {
        CorridorCells c = new CorridorCells(3, 3);
        due("none is found", c.unlike(1, 2), -3);
        due("the first way", c.run(0, 0, 2, 0, FAR), 2);
        dueWay("straight", c, 0, 0, 1, 0, 2, 0);
        due("no shared cell", c.unlike(0, 1), 2);
        dueWay("beside it", c, 0, 0, 1, 1, 2, 0);
        due("neither of the first nor of the second", c.unlike(0, 100), 6);
        dueWay("round about", c, 0, 0, 0, 1, 0, 2, 1, 2, 2, 2, 2, 1, 2, 0);
        due("no more", c.unlike(0, 1), -1);
        yes("it is known", c.proved());
        due("the way at hand stays", c.at(6, 0), 2);
        due("99 / 100 of one cell is none", c.unlike(99, 100), -1);
        due("all of one cell", c.unlike(1, 1), 2);
        dueWay("the first one again", c, 0, 0, 1, 0, 2, 0);
        due("a fifth one", c.unlike(7, 7), 2);
        due("a sixth one", c.unlike(100, 100), 2);
        due("no seventh one", c.unlike(1, 1), -3);
        due("a run forgets them", c.run(0, 0, 2, 0, FAR), 2);
        due("a further way again", c.unlike(0, 1), 2);
        due("its turn", c.turns(), 1);
    }

    private static void promise12Limits() {
        // in a row of 12 the way comes to 10 cells between its ends: 8 at most count, so it can not be had again
        CorridorCells row = new CorridorCells(12, 1);
        due("a row", row.run(0, 0, 11, 0, FAR), 11);
        due("8 of 10", row.unlike(1, 1), -1);
        CorridorCells less = new CorridorCells(10, 1);
        due("a row with 8 between", less.run(0, 0, 9, 0, FAR), 9);
        due("8 of 8", less.unlike(1, 1), 9);
        due("7 of 8", less.unlike(99, 100), -1);
        // m is cut off: of 3 cells two thirds are 2, 65 / 100 are 1
        CorridorCells two = new CorridorCells(5, 2);
        due("the first way", two.run(0, 0, 4, 0, FAR), 4);
        yes("bar(1, 1)", two.bar(1, 1));
        yes("bar(3, 1)", two.bar(3, 1));
        due("1 of 3", two.unlike(65, 100), -1);
        due("2 of 3", two.unlike(2, 3), 4);
        dueWay("two are shared", two, 0, 0, 1, 0, 2, 1, 3, 0, 4, 0);
    }

    private static void promise12Refused() {
        CorridorCells c = new CorridorCells(3, 2);
        due("run", c.run(0, 0, 2, 0, FAR), 2);
        long[][] wrong = {{-1, 1}, {1, 0}, {0, 0}, {0, -1}, {2, 1}, {1, 101}, {101, 101}, {-1, -1},
            {Long.MIN_VALUE, 1}, {1, Long.MAX_VALUE}, {Long.MAX_VALUE, Long.MAX_VALUE}, {0, Long.MIN_VALUE}};
        for (long[] w : wrong) {
            due("unlike(" + w[0] + ", " + w[1] + ")", c.unlike(w[0], w[1]), -3);
        }
        due("the way stays", c.turns(), 0);
        due("a further one", c.unlike(0, 1), 2);
        yes("bar(0, 0)", c.bar(0, 0));
        due("the first cell is barred by now", c.unlike(0, 1), -3);
        yes("bridge(0, 0, 3, 0)", c.bridge(0, 0, 3, 0));
        due("a bridge does not help", c.unlike(1, 1), -3);
        due("the way at hand stays", c.turns(), 1);
        CorridorCells d = new CorridorCells(3, 2);
        due("run", d.run(0, 0, 2, 0, FAR), 2);
        yes("bar(2, 0)", d.bar(2, 0));
        due("the last cell is barred by now", d.unlike(0, 1), -3);
    }

    private static void promise12FewestShared() {
        // two ways straight down by the sides of the middle one have as many turns, moves and cost
        CorridorCells c = new CorridorCells(3, 4);
        yes("cell(1, 1, 1, 0)", c.cell(1, 1, 1, 0));
        yes("cell(1, 2, 1, 0)", c.cell(1, 2, 1, 0));
        due("by the left side", c.run(1, 0, 1, 3, FAR), 3);
        dueWay("the lesser cells", c, 1, 0, 0, 1, 0, 2, 1, 3);
        due("with both allowed the other side is best", c.unlike(1, 1), 3);
        dueWay("the other side", c, 1, 0, 2, 1, 2, 2, 1, 3);
        due("now each shares two", c.unlike(1, 1), 3);
        dueWay("the lesser cells once more", c, 1, 0, 0, 1, 0, 2, 1, 3);
    }

    private static void promise13Span() {
        CorridorCells c = new CorridorCells(3, 2);
        due("span without a way", c.span(0, 0, 0), BAD);
        yes("aim(0, 1, 0, 30)", c.aim(0, 1, 0, 30));
        yes("cell(1, 1, 6, 0)", c.cell(1, 1, 6, 0));
        due("the first way", c.run(0, 0, 2, 0, FAR), 2);
        dueSpan("one way alone", c, 0, 0, 1, 1, 0);
        due("the second way", c.unlike(0, 1), 3);
        dueWay("below", c, 0, 0, 0, 1, 1, 1, 2, 0);
        dueSpan("60 against 300 w", c, 0, 1, 5, 1, 0);
        dueSpan("another aim has no weight that helps", c, 1, -1, 1, -1, 1);
        yes("weight(0, 20, 1)", c.weight(0, 20, 1));
        dueSpan("its own weight does not count", c, 0, 1, 5, 1, 0);
        dueSpan("others do", c, 1, 0, 1, 1, 0);
        yes("aim(0, 1, 1, 10)", c.aim(0, 1, 1, 10));
        dueSpan("60 + 100 w against 300 w", c, 0, 3, 10, 1, 0);
        yes("aim(0, 1, 1, 30)", c.aim(0, 1, 1, 30));
        dueSpan("60 + 300 w against 300 w", c, 0, -1, 1, -1, 1);
        yes("cell(1, 0, 6, 0)", c.cell(1, 0, 6, 0));
        dueSpan("as cheap for all", c, 0, 0, 1, 1, 0);
        yes("aim(0, 1, 1, 40)", c.aim(0, 1, 1, 40));
        dueSpan("as cheap for 0 alone", c, 0, 0, 1, 0, 1);
        yes("cell(1, 0, 8, 0)", c.cell(1, 0, 8, 0));
        dueSpan("60 + 400 w against 80 + 300 w", c, 0, 0, 1, 1, 5);
        yes("cell(1, 0, 999, 0)", c.cell(1, 0, 999, 0));
        dueSpan("above 20 too", c, 0, 0, 1, 993, 10);
        int[][] wrong = {{-1, 0, 0}, {4, 0, 0}, {0, -1, 0}, {0, 2, 0}, {0, 0, -1}, {0, 0, 2}};
        for (int[] w : wrong) {
            due("span(" + w[0] + ", " + w[1] + ", " + w[2] + ")", c.span(w[0], w[1], w[2]), BAD);
        }
    }

    private static void promise13SpanOfBridges() {
        CorridorCells c = new CorridorCells(3, 2);
        due("the first way", c.run(0, 0, 2, 0, FAR), 2);
        due("the second way", c.unlike(0, 1), 2);
        yes("aim(3, 1, 1, 5)", c.aim(3, 1, 1, 5));
        due("mark(6, 1, 1, 2)", c.mark(6, 1, 1, 2), 1);
        yes("cell(1, 0, 7, 0)", c.cell(1, 0, 7, 0));
        dueSpan("14 times 25 w against 70", c, 3, 0, 1, 1, 5);
        yes("bar(1, 1)", c.bar(1, 1));
        dueSpan("a barred cell counts as before", c, 3, 0, 1, 1, 5);
        yes("bridge(1, 1, 1, 5)", c.bridge(1, 1, 1, 5));
        dueSpan("on a bridge no aim counts, and 14 times 5 is 70", c, 3, 0, 1, 1, 0);
        yes("bridge(1, 1, 1, 6)", c.bridge(1, 1, 1, 6));
        dueSpan("84 is more than 70", c, 3, -1, 1, -1, 1);
    }

    private static void promise14Bridge() {
        CorridorCells c = new CorridorCells(5, 1);
        yes("bar(1, 0)", c.bar(1, 0));
        yes("bar(2, 0)", c.bar(2, 0));
        no("bridge(-1, 0, 1, 1)", c.bridge(-1, 0, 1, 1));
        no("bridge(5, 0, 1, 1)", c.bridge(5, 0, 1, 1));
        no("bridge(1, 1, 1, 1)", c.bridge(1, 1, 1, 1));
        no("bridge(1, -1, 1, 1)", c.bridge(1, -1, 1, 1));
        no("bridge(1, 0, 0, 1)", c.bridge(1, 0, 0, 1));
        no("bridge(1, 0, 4, 1)", c.bridge(1, 0, 4, 1));
        no("bridge(1, 0, 1, -1)", c.bridge(1, 0, 1, -1));
        no("bridge(1, 0, 1, 10000)", c.bridge(1, 0, 1, 10000));
        no("bridge(1, 0, 1, 2^32)", c.bridge(1, 0, 1, 1L << 32));
        yes("bridge(2, 0, 3, 2)", c.bridge(2, 0, 3, 2));
        due("no refused bridge is there", c.run(0, 0, 4, 0, FAR), -1);
        yes("bridge(1, 0, 1, 9999)", c.bridge(1, 0, 1, 9999));
        due("over both", c.run(0, 0, 4, 0, FAR), 4);
        dueCost("cents", c, 99990 + 20, 1);
        due("back the first one is the second in its row", c.run(4, 0, 0, 0, FAR), -1);
        yes("bridge(1, 0, 2, 0)", c.bridge(1, 0, 2, 0));
        due("a most of 2", c.run(4, 0, 0, 0, FAR), 4);
        dueCost("cents 0 and 2", c, 20, 1);
        yes("bar(3, 0)", c.bar(3, 0));
        yes("bridge(3, 0, 2, 0)", c.bridge(3, 0, 2, 0));
        due("three in a row and a most of 2", c.run(0, 0, 4, 0, FAR), -1);
        yes("bridge(3, 0, 3, 0)", c.bridge(3, 0, 3, 0));
        due("a most of 3", c.run(0, 0, 4, 0, FAR), 4);
        due("but not back", c.run(4, 0, 0, 0, FAR), -1);
    }

    private static void promise14Straight() {
        // a wall in column 2 with a bridge at (2, 1): over it the way goes straight
        CorridorCells c = new CorridorCells(5, 3);
        for (int y = 0; y < 3; y++) {
            yes("bar(2, y)", c.bar(2, y));
        }
        yes("bridge(2, 1, 1, 0)", c.bridge(2, 1, 1, 0));
        due("a straight way", c.run(0, 1, 4, 1, FAR), 4);
        due("two turns", c.run(0, 0, 4, 0, FAR), 5);
        due("its turns", c.turns(), 2);
        for (int k = 2; k < 5; k++) {
            due("heading of move " + k, c.at(k, 2), 0);
        }
        due("the first move may go to a bridge by any heading", c.run(1, 0, 3, 2, FAR), 2);
        due("at(1, 2)", c.at(1, 2), 2);
        due("it goes on as it came", c.run(1, 0, 3, 1, FAR), 3);
        dueWay("by the cell athwart", c, 1, 0, 2, 1, 3, 2, 3, 1);
        CorridorCells narrow = new CorridorCells(3, 2);
        yes("bar(1, 0)", narrow.bar(1, 0));
        yes("bar(1, 1)", narrow.bar(1, 1));
        yes("bridge(1, 1, 1, 0)", narrow.bridge(1, 1, 1, 0));
        due("no turn onto the bridge nor from it", narrow.run(0, 0, 2, 0, FAR), -1);
        due("from the side of the bridge", narrow.run(0, 1, 2, 0, FAR), 3);
        due("to the side of the bridge", narrow.run(0, 0, 2, 1, FAR), -1);
    }

    private static void promise15Mark() {
        CorridorCells c = new CorridorCells(2, 1);
        due("mark(0, 1, 0, 3)", c.mark(0, 1, 0, 3), 1);
        due("the same person again", c.mark(0, 1, 0, 2), 1);
        due("another person", c.mark(7, 1, 0, 1), 2);
        due("another cell", c.mark(7, 0, 0, 3), 1);
        yes("aim(3, 1, 0, 4)", c.aim(3, 1, 0, 4));
        yes("weight(3, 1, 1)", c.weight(3, 1, 1));
        due("run", c.run(0, 0, 1, 0, FAR), 1);
        dueCost("4 and 10 times 3", c, 340, 1);
        due("no such mark to take away", c.mark(3, 1, 0, 0), 2);
        due("mark(0, 1, 0, 0)", c.mark(0, 1, 0, 0), 1);
        dueCost("4 and 10 times 1", c, 140, 1);
        int[][] wrong = {{-1, 1, 0, 1}, {8, 1, 0, 1}, {0, 2, 0, 1}, {0, -1, 0, 1}, {0, 1, 1, 1}, {0, 1, -1, 1},
            {0, 1, 0, -1}, {0, 1, 0, 4}, {Integer.MIN_VALUE, 1, 0, 1}, {16, 1, 0, 1}};
        for (int[] w : wrong) {
            due("mark refused", c.mark(w[0], w[1], w[2], w[3]), BAD);
        }
        for (int person = 0; person < 8; person++) {
            due("all persons", c.mark(person, 1, 0, 3), person < 7 ? person + 2 : 8);
        }
        dueCost("4 and 10 times 24", c, 2440, 1);
        yes("weight(3, 0, 1)", c.weight(3, 0, 1));
        yes("weight(2, 1, 1)", c.weight(2, 1, 1));
        dueCost("marks count for aim 3 alone", c, 0, 1);
    }

    private static void promise16Zone() {
        CorridorCells c = new CorridorCells(2, 2);
        due("zone(7, 1, 1)", c.zone(7, 1, 1), 0);
        due("zone(0, 1, 1)", c.zone(0, 1, 1), 7);
        due("zone(3, 1, 1)", c.zone(3, 1, 1), 0);
        int[][] wrong = {{-1, 1, 1}, {8, 1, 1}, {1, 2, 1}, {1, -1, 1}, {1, 1, 2}, {1, 1, -1}};
        for (int[] w : wrong) {
            due("zone(" + w[0] + ", " + w[1] + ", " + w[2] + ")", c.zone(w[0], w[1], w[2]), BAD);
        }
        due("refused ones change nothing", c.zone(3, 1, 1), 3);
        due("others are apart", c.zone(1, 0, 1), 0);
    }

    private static void promise17Sum() {
        CorridorCells c = new CorridorCells(4, 1);
        for (int x = 0; x < 4; x++) {
            yes("cell(x, 0, ..)", c.cell(x, 0, 1 << x, 0));
        }
        due("sum(0) without a way", c.sum(0), BAD);
        due("run", c.run(0, 0, 3, 0, FAR), 3);
        due("the first one too", c.sum(0), 15);
        due("an empty zone", c.sum(7), 0);
        due("zone(2, 0, 0)", c.zone(2, 0, 0), 0);
        due("zone(2, 2, 0)", c.zone(2, 2, 0), 0);
        due("sum(2)", c.sum(2), 5);
        due("sum(0)", c.sum(0), 10);
        due("sum(-1)", c.sum(-1), BAD);
        due("sum(8)", c.sum(8), BAD);
        yes("cell(2, 0, 100, 0)", c.cell(2, 0, 100, 0));
        due("costs as they are now", c.sum(2), 101);
        yes("aim(0, 2, 0, 9)", c.aim(0, 2, 0, 9));
        yes("weight(0, 1, 1)", c.weight(0, 1, 1));
        yes("bar(2, 0)", c.bar(2, 0));
        yes("bridge(2, 0, 1, 77)", c.bridge(2, 0, 1, 77));
        due("neither aims nor cents", c.sum(2), 101);
        sumOfCellsTwice();
    }

    /** With turns of 2 the way can't bend down at (2, 3), so it goes round and crosses that cell once more. */
    private static void sumOfCellsTwice() {
        CorridorCells c = new CorridorCells(6, 6);
        int[][] loop = {{1, 3}, {2, 3}, {3, 3}, {4, 3}, {5, 2}, {5, 1}, {4, 0}, {3, 0}, {2, 1}, {2, 2}, {2, 4}, {2, 5}};
        boolean[] on = new boolean[36];
        for (int[] xy : loop) {
            on[xy[1] * 6 + xy[0]] = true;
            // the levels keep the way from stepping from (1, 3) to (2, 2) or (2, 4) at once
            yes("cell", c.cell(xy[0], xy[1], 0, xy[1] > 3 ? 10 : xy[0] == 1 ? 0 : 5));
        }
        yes("cell(2, 2, 0, 10)", c.cell(2, 2, 0, 10));
        for (int i = 0; i < 36; i++) {
            due("bar", !on[i] && c.bar(i % 6, i / 6), !on[i]);
        }
        yes("cell(2, 3, 5, 5)", c.cell(2, 3, 5, 5));
        yes("moves(1, 5, 2)", c.moves(1, 5, 2));
        due("over the loop", c.run(1, 3, 2, 5, FAR), 12);
        due("first", c.at(1, 0) * 10 + c.at(1, 1), 23);
        due("and once more", c.at(10, 0) * 10 + c.at(10, 1), 23);
        due("each time", c.sum(0), 10);
        dueCost("each time", c, 100, 1);
        due("only what is left of the loop differs", c.unlike(1, 1), -1);
    }

    private static void promise18Turns() {
        CorridorCells c = new CorridorCells(4, 4);
        due("turns() without a way", c.turns(), BAD);
        due("run", c.run(0, 0, 0, 3, FAR), 3);
        due("the first move is no turn", c.turns(), 0);
        due("run", c.run(0, 0, 1, 3, FAR), 3);
        due("one turn", c.turns(), 1);
        yes("bar(1, 2)", c.bar(1, 2));
        yes("bar(0, 2)", c.bar(0, 2));
        due("run", c.run(0, 0, 0, 3, FAR), 6);
        dueWay("there and back", c, 0, 0, 1, 1, 2, 2, 3, 3, 2, 3, 1, 3, 0, 3);
        due("one turn of 6", c.turns(), 1);
        yes("moves(1, 9999, 4)", c.moves(1, 9999, 4));
        due("run", c.run(0, 0, 0, 3, FAR), 4);
        dueWay("bent back", c, 0, 0, 1, 1, 2, 2, 1, 3, 0, 3);
        due("two turns", c.turns(), 2);
        due("none", c.run(0, 0, 0, 3, 1), SPENT);
        due("turns() of none", c.turns(), BAD);
    }

    private static void promise19Keeps() {
        CorridorCells c = new CorridorCells(4, 2);
        no("keeps() without a way", c.keeps());
        yes("moves(2, 9999, 8)", c.moves(2, 9999, 8));
        due("run", c.run(0, 0, 3, 1, FAR), 2);
        dueWay("a short and a long move", c, 0, 0, 1, 0, 3, 1);
        yes("as it was found", c.keeps());
        yes("moves(2, 9999, 1)", c.moves(2, 9999, 1));
        yes("a turn of 1", c.keeps());
        yes("moves(2, 9999, 0)", c.moves(2, 9999, 0));
        no("no turns now", c.keeps());
        yes("moves(1, 9999, 8)", c.moves(1, 9999, 8));
        no("no long moves now", c.keeps());
        yes("moves(2, 10, 8)", c.moves(2, 10, 8));
        yes("cell(1, 0, 999, 10)", c.cell(1, 0, 999, 10));
        yes("costs and levels within the slope", c.keeps());
        yes("cell(1, 0, 0, 11)", c.cell(1, 0, 0, 11));
        no("too steep now", c.keeps());
        yes("cell(1, 0, 0, 0)", c.cell(1, 0, 0, 0));
        yes("bar(2, 0)", c.bar(2, 0));
        yes("no cell of the way is barred", c.keeps());
        yes("bar(1, 0)", c.bar(1, 0));
        no("a barred cell", c.keeps());
        yes("bridge(1, 0, 1, 0)", c.bridge(1, 0, 1, 0));
        no("a turn on a bridge", c.keeps());
        keepsOnBridges();
        due("spent", c.run(0, 0, 3, 1, 1), SPENT);
        no("keeps() of none", c.keeps());
    }

    private static void keepsOnBridges() {
        CorridorCells c = new CorridorCells(5, 1);
        due("run", c.run(0, 0, 4, 0, FAR), 4);
        for (int x = 1; x < 4; x++) {
            yes("bar(x, 0)", c.bar(x, 0));
            no("barred", c.keeps());
            yes("bridge(x, 0, x, 0)", c.bridge(x, 0, x, 0));
            yes("bridged", c.keeps());
        }
        yes("bridge(2, 0, 1, 0)", c.bridge(2, 0, 1, 0));
        no("two in a row and a most of 1", c.keeps());
        yes("bridge(2, 0, 3, 0)", c.bridge(2, 0, 3, 0));
        yes("a greater most", c.keeps());
        for (int x = 0; x < 2; x++) {
            CorridorCells d = new CorridorCells(2, 1);
            due("run", d.run(0, 0, 1, 0, FAR), 1);
            yes("bridge(x, 0, 3, 0)", d.bridge(x, 0, 3, 0));
            yes("a bridge where none is barred", d.keeps());
            yes("bar(x, 0)", d.bar(x, 0));
            no("an end is barred", d.keeps());
        }
        CorridorCells e = new CorridorCells(4, 2);
        due("run", e.run(3, 1, 0, 0, FAR), 3);
        dueWay("a turn at (2, 0)", e, 3, 1, 2, 0, 1, 0, 0, 0);
        yes("bridge(1, 0, 1, 0)", e.bridge(1, 0, 1, 0));
        yes("bar(1, 0)", e.bar(1, 0));
        no("a turn onto a bridge", e.keeps());
        CorridorCells g = new CorridorCells(4, 2);
        due("run", g.run(3, 1, 0, 0, FAR), 3);
        yes("bridge(2, 0, 1, 0)", g.bridge(2, 0, 1, 0));
        yes("bar(2, 0)", g.bar(2, 0));
        no("a turn from a bridge, though the first move comes to it", g.keeps());
    }
}
