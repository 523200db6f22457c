/** Boundary cases of the calls that tell an object something (promises 1 to 6, 14 to 16): a test for each sentence. */
public final class BoundaryTellingTest extends Check {
    private static final int LEAST = Integer.MIN_VALUE, GREATEST = Integer.MAX_VALUE;
    /** Places that a grid of 3 by 2 does not have, each beside one that it has, or far away. */
    private static final int[][] OUTSIDE = {{-1, 0}, {3, 0}, {0, -1}, {0, 2}, {-1, -1}, {3, 2}, {-1, 1}, {3, -1},
        {LEAST, 0}, {GREATEST, 1}, {0, LEAST}, {0, GREATEST}, {GREATEST, GREATEST}, {LEAST, LEAST}};

    public static void main(String[] args) {
        widthAndHeight();
        costsLevelsValuesAtFirst();
        movesAtFirst();
        cellTold();
        cellRefused();
        barTold();
        barRefused();
        movesTold();
        movesRefused();
        aimTold();
        aimRefused();
        weightTold();
        weightRefused();
        bridgeTold();
        bridgeRefused();
        markTold();
        markRefused();
        zoneTold();
        zoneRefused();
        end();
    }

    private static String words(long... numbers) {
        StringBuilder text = new StringBuilder();
        for (long number : numbers) {
            text.append(text.length() == 0 ? "(" : ", ").append(number);
        }
        return text.append(")").toString();
    }

    private static void widthAndHeight() {
        of("Promise 1", "w is width, h is height, each but 1 if less, 12 if more");
        int[] told = {LEAST, -12, -1, 0, 1, 2, 11, 12, 13, 144, GREATEST};
        int[] made = {1, 1, 1, 1, 1, 2, 11, 12, 12, 12, 12};
        for (int i = 0; i < told.length; i++) {
            for (int k = 0; k < told.length; k++) {
                CorridorCells c = new CorridorCells(told[i], told[k]);
                String grid = "new " + words(told[i], told[k]) + ": ";
                yes(grid + "the last cell", c.bar(made[i] - 1, made[k] - 1));
                no(grid + "right of it", c.bar(made[i], made[k] - 1));
                no(grid + "below it", c.bar(made[i] - 1, made[k]));
            }
        }
        CorridorCells one = new CorridorCells(0, 0);
        due("one cell has no way", one.run(0, 0, 0, 0, FAR), REFUSED);
    }

    private static void costsLevelsValuesAtFirst() {
        of("Promise 1", "Costs, levels, values are 0");
        CorridorCells c = new CorridorCells(12, 12);
        for (int aim = 0; aim < 4; aim++) {
            yes("weight(aim, 20, 1)", c.weight(aim, 20, 1));
        }
        yes("moves(1, 0, 8)", c.moves(1, 0, 8));
        for (int y = 0; y < 12; y++) {
            due("all levels of row " + y, c.run(0, y, 11, y, FAR), 11);
            dueCost("all costs of row " + y, c, 0, 1);
            due("their sum", c.sum(0), 0);
        }
        due("all levels from corner to corner", c.run(11, 11, 0, 0, FAR), 11);
    }

    private static void movesAtFirst() {
        of("Promise 1", "REACH 1, SLOPE 9,999, TURN 8");
        CorridorCells c = new CorridorCells(3, 2);
        due("reach 1 has no long moves", c.run(0, 0, 2, 1, FAR), 2);
        yes("cell(1, 0, 0, 9999)", c.cell(1, 0, 0, 9999));
        due("slope 9,999", c.run(0, 0, 1, 0, FAR), 1);
        // the cell beside the end has a label by each heading, by 8 those that turn round too
        CorridorCells row = drawn(".#..");
        due("15 of 16 labels", row.run(0, 0, 3, 0, 15), SPENT);
        due("16 of 16 labels", row.run(0, 0, 3, 0, 16), NONE);
        due("a turn of 8", thereAndBack().run(2, 1, 0, 0, FAR), 6);
    }

    private static void cellTold() {
        of("Promise 2", "A cell's cost and level");
        CorridorCells c = new CorridorCells(3, 2);
        due("run", c.run(0, 0, 2, 0, FAR), 2);
        int[] costs = {0, 1, 998, 999};
        int[] levels = {0, 1, 9998, 9999};
        for (int i = 0; i < 4; i++) {
            yes("cell", c.cell(2, 0, costs[i], levels[i]));
            dueCost("cost " + costs[i], c, 10 * costs[i], 1);
            yes("moves", c.moves(1, levels[i], 8));
            yes("level " + levels[i], c.keeps());
            yes("moves", levels[i] == 0 || c.moves(1, levels[i] - 1, 8));
            due("slope below level " + levels[i], c.keeps(), levels[i] == 0);
        }
        yes("another cell", c.cell(2, 1, 5, 5));
        dueCost("is another one", c, 9990, 1);
    }

    private static void cellRefused() {
        of("Promise 2", "False: none such");
        CorridorCells c = new CorridorCells(3, 2);
        yes("cell(2, 1, 7, 3)", c.cell(2, 1, 7, 3));
        for (int[] xy : OUTSIDE) {
            no("cell" + words(xy[0], xy[1], 1, 1), c.cell(xy[0], xy[1], 1, 1));
        }
        int[][] wrong = {{-1, 1}, {1000, 1}, {LEAST, 1}, {GREATEST, 1}, {1, -1}, {1, 10000}, {1, LEAST}, {1, GREATEST},
            {-1, -1}, {1000, 10000}};
        for (int[] told : wrong) {
            no("cell" + words(2, 1, told[0], told[1]), c.cell(2, 1, told[0], told[1]));
        }
        yes("moves(1, 3, 8)", c.moves(1, 3, 8));
        due("its level is as before", c.run(1, 1, 2, 1, FAR), 1);
        dueCost("its cost is as before", c, 70, 1);
        yes("moves(1, 2, 8)", c.moves(1, 2, 8));
        no("its level is as before", c.keeps());
        due("other cells are as before", c.run(0, 1, 1, 0, FAR), 1);
        dueCost("other cells are as before", c, 0, 1);
    }

    private static void barTold() {
        of("Promise 3", "A cell is barred");
        CorridorCells c = new CorridorCells(3, 1);
        yes("bar(1, 0)", c.bar(1, 0));
        due("no way", c.run(0, 0, 2, 0, FAR), NONE);
        yes("the first cell", c.bar(0, 0));
        due("from it", c.run(0, 0, 2, 0, FAR), REFUSED);
        yes("the last cell", c.bar(2, 0));
        CorridorCells one = new CorridorCells(1, 1);
        yes("the only one", one.bar(0, 0));
    }

    private static void barRefused() {
        of("Promise 3", "False: none such, or it was");
        CorridorCells c = new CorridorCells(3, 2);
        for (int[] xy : OUTSIDE) {
            no("bar" + words(xy[0], xy[1]), c.bar(xy[0], xy[1]));
        }
        for (int i = 0; i < 6; i++) {
            yes("none was barred", c.bar(i % 3, i / 3));
            no("now it was", c.bar(i % 3, i / 3));
        }
        yes("bridge(1, 1, 1, 0)", c.bridge(1, 1, 1, 0));
        no("a bridged one was barred too", c.bar(1, 1));
    }

    private static void movesTold() {
        of("Promise 4", "REACH (1, 2), SLOPE (0 .. 9,999), TURN (0 .. 8)");
        CorridorCells c = new CorridorCells(3, 2);
        for (int reach = 1; reach <= 2; reach++) {
            for (int turn = 0; turn <= 8; turn++) {
                yes("moves" + words(reach, 0, turn), c.moves(reach, 0, turn));
                yes("moves" + words(reach, 9999, turn), c.moves(reach, 9999, turn));
                int due = reach == 2 ? 1 : turn < 2 ? NONE : 2;
                due("run by reach and turn " + words(reach, turn), c.run(0, 0, 2, 1, FAR), due);
            }
        }
        yes("cell(2, 1, 0, 1)", c.cell(2, 1, 0, 1));
        yes("moves(2, 0, 8)", c.moves(2, 0, 8));
        due("a slope of 0", c.run(0, 0, 2, 1, FAR), NONE);
        yes("moves(2, 1, 8)", c.moves(2, 1, 8));
        due("a slope of 1", c.run(0, 0, 2, 1, FAR), 1);
    }

    private static void movesRefused() {
        of("Promise 4", "False: none such");
        CorridorCells c = new CorridorCells(4, 2);
        yes("level 4", c.cell(2, 0, 0, 4) && c.cell(3, 1, 0, 4));
        yes("moves(2, 4, 1)", c.moves(2, 4, 1));
        due("run", c.run(0, 0, 3, 1, FAR), 2);
        dueWay("a short and a long move", c, 0, 0, 1, 0, 3, 1);
        int[][] wrong = {{0, 3, 0}, {3, 3, 0}, {-1, 3, 0}, {LEAST, 3, 0}, {GREATEST, 3, 0}, {1, -1, 0}, {1, 10000, 0},
            {1, LEAST, 0}, {1, GREATEST, 0}, {1, 3, -1}, {1, 3, 9}, {1, 3, LEAST}, {1, 3, GREATEST}, {0, -1, 9}};
        for (int[] told : wrong) {
            no("moves" + words(told[0], told[1], told[2]), c.moves(told[0], told[1], told[2]));
            yes("neither reach nor slope nor turn is less", c.keeps());
        }
        yes("level 5", c.cell(3, 1, 0, 5));
        no("nor is the slope more", c.keeps());
    }

    private static void aimTold() {
        of("Promise 5", "A value of an aim");
        CorridorCells c = new CorridorCells(2, 2);
        due("run", c.run(0, 0, 1, 1, FAR), 1);
        for (int aim = 0; aim < 4; aim++) {
            yes("weight(aim, 1, 1)", c.weight(aim, 1, 1));
        }
        long[] values = {0, 1, 998, 999};
        for (int aim = 0; aim < 4; aim++) {
            for (long v : values) {
                yes("aim" + words(aim, 1, 1, v), c.aim(aim, 1, 1, v));
                dueCost("with it and those before", c, 14 * (999 * aim + v), 1);
            }
            yes("another cell", c.aim(aim, 1, 0, 5));
        }
    }

    private static void aimRefused() {
        of("Promise 5", "False: none such");
        CorridorCells c = new CorridorCells(3, 2);
        due("run", c.run(0, 0, 2, 0, FAR), 2);
        for (int aim = 0; aim < 4; aim++) {
            yes("aim and weight", c.aim(aim, 1, 0, 3) && c.weight(aim, 1, 1));
        }
        int[] noAims = {-1, 4, LEAST, GREATEST};
        for (int aim : noAims) {
            no("aim" + words(aim, 1, 0, 9), c.aim(aim, 1, 0, 9));
        }
        long[] noValues = {-1, 1000, Long.MIN_VALUE, Long.MAX_VALUE, 1L << 32, (1L << 32) + 9, -(1L << 32)};
        for (int aim = 0; aim < 4; aim++) {
            for (int[] xy : OUTSIDE) {
                no("aim" + words(aim, xy[0], xy[1], 9), c.aim(aim, xy[0], xy[1], 9));
            }
            for (long v : noValues) {
                no("aim" + words(aim, 1, 0, v), c.aim(aim, 1, 0, v));
            }
        }
        dueCost("all is as before", c, 120, 1);
    }

    private static void weightTold() {
        of("Promise 6", "An aim's weight: above 0 .. 20 by below 1 .. 6");
        for (int aim = 0; aim < 4; aim++) {
            CorridorCells c = new CorridorCells(2, 1);
            yes("aim(aim, 1, 0, 6)", c.aim(aim, 1, 0, 6));
            due("run", c.run(0, 0, 1, 0, FAR), 1);
            for (long below = 1; below <= 6; below++) {
                for (long above = 0; above <= 20; above++) {
                    yes("weight" + words(aim, above, below), c.weight(aim, above, below));
                    dueCost("10 times 6 times the weight", c, 60 * above / below, 1);
                }
            }
        }
    }

    private static void weightRefused() {
        of("Promise 6", "False: none such");
        CorridorCells c = new CorridorCells(2, 1);
        due("run", c.run(0, 0, 1, 0, FAR), 1);
        for (int aim = 0; aim < 4; aim++) {
            yes("aim and weight", c.aim(aim, 1, 0, 1) && c.weight(aim, 1, 5));
        }
        int[] noAims = {-1, 4, LEAST, GREATEST};
        for (int aim : noAims) {
            no("weight" + words(aim, 1, 1), c.weight(aim, 1, 1));
        }
        long[][] wrong = {{-1, 1}, {21, 1}, {21, 6}, {120, 6}, {0, 0}, {1, 0}, {1, -1}, {0, 7}, {1, 7}, {-1, -1},
            {Long.MIN_VALUE, 1}, {Long.MAX_VALUE, 1}, {1, Long.MIN_VALUE}, {1, Long.MAX_VALUE}, {1L << 32, 1},
            {1, 1L << 32}, {1, (1L << 32) + 1}, {(1L << 32) + 1, 1}};
        for (int aim = 0; aim < 4; aim++) {
            for (long[] told : wrong) {
                no("weight" + words(aim, told[0], told[1]), c.weight(aim, told[0], told[1]));
            }
        }
        dueCost("all is as before", c, 8, 1);
    }

    private static void bridgeTold() {
        of("Promise 14", "A bridge");
        CorridorCells c = drawn(".#.");
        long[] cents = {0, 1, 9998, 9999};
        for (int most = 1; most <= 3; most++) {
            for (long told : cents) {
                yes("bridge" + words(1, 0, most, told), c.bridge(1, 0, most, told));
                due("run", c.run(0, 0, 2, 0, FAR), 2);
                dueCost("its cents", c, 10 * told, 1);
            }
        }
        CorridorCells row = drawn(".###.");
        yes("mosts of 1 and 2", row.bridge(1, 0, 1, 0) && row.bridge(2, 0, 2, 0));
        due("the third has none", row.run(0, 0, 4, 0, FAR), NONE);
        for (int most = 1; most <= 3; most++) {
            yes("the third", row.bridge(3, 0, most, 0));
            due("a most of " + most, row.run(0, 0, 4, 0, FAR), most == 3 ? 4 : NONE);
        }
        yes("less again", row.bridge(3, 0, 2, 0));
        due("less again", row.run(0, 0, 4, 0, FAR), NONE);
    }

    private static void bridgeRefused() {
        of("Promise 14", "False: none such");
        CorridorCells c = drawn(".#.", "###");
        int[] noMosts = {0, 4, -1, LEAST, GREATEST};
        long[] noCents = {-1, 10000, Long.MIN_VALUE, Long.MAX_VALUE, 1L << 32, (1L << 32) + 9};
        for (int round = 0; round < 2; round++) {
            for (int[] xy : OUTSIDE) {
                no("bridge" + words(xy[0], xy[1], 1, 1), c.bridge(xy[0], xy[1], 1, 1));
            }
            for (int most : noMosts) {
                no("bridge" + words(1, 0, most, 1), c.bridge(1, 0, most, 1));
            }
            for (long cents : noCents) {
                no("bridge" + words(1, 0, 1, cents), c.bridge(1, 0, 1, cents));
            }
            due("no bridge, or that of before", c.run(0, 0, 2, 0, FAR), round == 0 ? NONE : 2);
            due("its cents", c.cost(0), round == 0 ? BAD : 60);
            yes("bridge(1, 0, 1, 6)", c.bridge(1, 0, 1, 6));
        }
    }

    private static void markTold() {
        of("Promise 15", "A person's mark (0: it goes): how many persons have marks there");
        CorridorCells c = new CorridorCells(2, 1);
        due("none goes", c.mark(0, 1, 0, 0), 0);
        for (int person = 0; person < 8; person++) {
            due("one more", c.mark(person, 1, 0, 1 + person % 3), person + 1);
        }
        for (int person = 0; person < 8; person++) {
            due("another kind", c.mark(person, 1, 0, 3 - person % 3), 8);
            due("the other cell has none of them", c.mark(person, 0, 0, 0), 0);
        }
        for (int person = 7; person >= 0; person--) {
            due("one goes", c.mark(person, 1, 0, 0), person);
            due("it is gone", c.mark(person, 1, 0, 0), person);
        }
        due("the last person alone", c.mark(7, 1, 0, 3), 1);
    }

    private static void markRefused() {
        of("Promise 15", "BAD: none such");
        CorridorCells c = new CorridorCells(3, 2);
        yes("weight(3, 1, 1)", c.weight(3, 1, 1));
        due("run", c.run(0, 0, 2, 0, FAR), 2);
        due("mark(2, 1, 0, 2)", c.mark(2, 1, 0, 2), 1);
        for (int[] xy : OUTSIDE) {
            due("mark" + words(0, xy[0], xy[1], 1), c.mark(0, xy[0], xy[1], 1), BAD);
            due("mark" + words(0, xy[0], xy[1], 0), c.mark(0, xy[0], xy[1], 0), BAD);
        }
        int[] noPersons = {-1, 8, 16, 18, LEAST, GREATEST};
        for (int person : noPersons) {
            due("mark" + words(person, 1, 0, 1), c.mark(person, 1, 0, 1), BAD);
            due("mark" + words(person, 1, 0, 0), c.mark(person, 1, 0, 0), BAD);
        }
        int[] noKinds = {-1, 4, 5, LEAST, GREATEST};
        for (int kind : noKinds) {
            due("mark" + words(0, 1, 0, kind), c.mark(0, 1, 0, kind), BAD);
            due("mark" + words(2, 1, 0, kind), c.mark(2, 1, 0, kind), BAD);
        }
        dueCost("all is as before", c, 200, 1);
        due("one person still", c.mark(7, 1, 0, 0), 1);
    }

    private static void zoneTold() {
        of("Promise 16", "A cell's zone, 0 .. 7 (0 at first): what it was");
        CorridorCells c = new CorridorCells(12, 12);
        for (int i = 0; i < 144; i++) {
            due("0 at first", c.zone(i % 8, i % 12, i / 12), 0);
        }
        for (int i = 0; i < 144; i++) {
            due("as it was told", c.zone(7 - i % 8, i % 12, i / 12), i % 8);
        }
        due("as it was told then", c.zone(0, 0, 0), 7);
        due("0 again", c.zone(0, 0, 0), 0);
    }

    private static void zoneRefused() {
        of("Promise 16", "BAD: none such");
        CorridorCells c = new CorridorCells(3, 2);
        due("zone(5, 1, 0)", c.zone(5, 1, 0), 0);
        for (int[] xy : OUTSIDE) {
            due("zone" + words(1, xy[0], xy[1]), c.zone(1, xy[0], xy[1]), BAD);
        }
        int[] noZones = {-1, 8, LEAST, GREATEST};
        for (int zone : noZones) {
            due("zone" + words(zone, 1, 0), c.zone(zone, 1, 0), BAD);
        }
        for (int i = 0; i < 6; i++) {
            due("all is as before", c.zone(0, i % 3, i / 3), i == 1 ? 5 : 0);
        }
    }
}
