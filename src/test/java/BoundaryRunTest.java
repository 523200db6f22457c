/** Boundary cases of run() and of what is asked of it (promises 7 to 11): a test for each sentence. */
public final class BoundaryRunTest extends Check {
    private static final int LEAST = Integer.MIN_VALUE, GREATEST = Integer.MAX_VALUE;

    public static void main(String[] args) {
        leastAndMostLabels();
        enoughLabels();
        thereIsNone();
        spent();
        refusedChangesNothing();
        refusedAtFirst();
        refusedAfterSpent();
        onlyOneIsFound();
        cellsOfOthersAreNotShared();
        elseThereIsNone();
        placesOfAWay();
        placesOfALongWay();
        noSuchPlace();
        costsAsTheyAreNow();
        costInLeastTerms();
        noSuchPart();
        boundOfTheLastCall();
        boundCutOff();
        boundOfNone();
        proved();
        provedOfTheLastCall();
        end();
    }

    private static void leastAndMostLabels() {
        of("Promise 7", "closing at most so many labels (1 .. 100,000): its moves");
        CorridorCells c = new CorridorCells(2, 1);
        due("0", c.run(0, 0, 1, 0, 0), REFUSED);
        for (int nodes = 1; nodes < 10; nodes++) {
            due("nodes " + nodes, c.run(0, 0, 1, 0, nodes), SPENT);
        }
        due("10", c.run(0, 0, 1, 0, 10), 1);
        due("99,999", c.run(0, 0, 1, 0, 99999), 1);
        due("100,000", c.run(0, 0, 1, 0, 100000), 1);
        due("100,001", c.run(0, 0, 1, 0, 100001), REFUSED);
    }

    /** No search has as many labels, so the greatest number is always enough; here nearly all that can be are there. */
    private static void enoughLabels() {
        of("Promise 7", "closing at most so many labels (1 .. 100,000): its moves");
        CorridorCells c = new CorridorCells(12, 12);
        yes("moves(2, 9999, 8)", c.moves(2, 9999, 8));
        due("straight through", c.run(0, 0, 11, 11, FAR), 11);
        for (int i = 1; i < 143; i++) {
            yes("bridge", c.bridge(i % 12, i / 12, 3, i % 7));
            yes("bar", i % 13 == 0 && i % 4 != 1 || c.bar(i % 12, i / 12));
        }
        due("all labels of 8 shared cells and less", c.unlike(1, 1) != SPENT, true);
        yes("it is known", c.proved());
        due("all labels", c.run(0, 0, 11, 11, FAR) != SPENT, true);
        yes("it is known", c.proved());
    }

    private static void thereIsNone() {
        of("Promise 7", "- 1: there is none");
        due("a wall", drawn(".#.").run(0, 0, 2, 0, FAR), NONE);
        CorridorCells steep = new CorridorCells(2, 1);
        yes("steep", steep.cell(0, 0, 0, 1) && steep.moves(2, 0, 8));
        due("a slope", steep.run(0, 0, 1, 0, FAR), NONE);
        CorridorCells bent = new CorridorCells(3, 2);
        yes("moves(1, 9999, 0)", bent.moves(1, 9999, 0));
        due("a turn", bent.run(0, 0, 2, 1, FAR), NONE);
        due("bridges", drawn(".11.").run(0, 0, 3, 0, FAR), NONE);
        CorridorCells walled = drawn(
            ".....",
            ".###.",
            ".#.#.",
            ".###.",
            ".....");
        due("into a ring", walled.run(0, 0, 2, 2, FAR), NONE);
        due("out of a ring", walled.run(2, 2, 0, 0, FAR), NONE);
        yes("it is known", walled.proved());
        yes("moves(2, 9999, 8)", walled.moves(2, 9999, 8));
        due("long moves go over the ring", walled.run(0, 0, 2, 2, FAR) > 0, true);
    }

    private static void spent() {
        of("Promise 7", "SPENT: so many were closed, and it is not known");
        CorridorCells way = new CorridorCells(3, 1);
        CorridorCells none = drawn(".#..");
        for (int nodes = 1; nodes <= 10; nodes++) {
            due("a way of 11 labels, nodes " + nodes, way.run(0, 0, 2, 0, nodes), SPENT);
            no("it is not known", way.proved());
        }
        due("now it is", way.run(0, 0, 2, 0, 11), 2);
        for (int nodes = 1; nodes <= 15; nodes++) {
            due("none, 16 labels, nodes " + nodes, none.run(0, 0, 3, 0, nodes), SPENT);
            no("it is not known", none.proved());
        }
        due("none is left, so it is known", none.run(0, 0, 3, 0, 16), NONE);
        due("and by one more", none.run(0, 0, 3, 0, 17), NONE);
    }

    /** Calls that are refused on a grid of 3 by 2 with (2, 1) barred and bridged; the last number is nodes. */
    private static void refuseAll(CorridorCells c) {
        int[][] ends = {{-1, 0, 2, 0}, {3, 0, 2, 0}, {0, -1, 2, 0}, {0, 2, 2, 0}, {0, 0, -1, 0}, {0, 0, 3, 0},
            {0, 0, 2, -1}, {0, 0, 2, 2}, {LEAST, 0, 2, 0}, {0, GREATEST, 2, 0}, {0, 0, GREATEST, 0}, {0, 0, 2, LEAST}, {3, 0, 3, 0},
            {0, 0, 0, 0}, {2, 0, 2, 0}, {0, 0, 2, 1}, {2, 1, 0, 0}, {2, 1, 2, 1}};
        for (int[] e : ends) {
            String call = "run(" + e[0] + ", " + e[1] + ", " + e[2] + ", " + e[3] + ", ..)";
            due(call, c.run(e[0], e[1], e[2], e[3], FAR), REFUSED);
        }
        long[] nodes = {0, -1, 100001, Long.MIN_VALUE, Long.MAX_VALUE, 1L << 32, (1L << 32) + 20};
        for (long told : nodes) {
            due("run with nodes " + told, c.run(0, 0, 2, 0, told), REFUSED);
        }
    }

    private static CorridorCells smallGrid() {
        return drawn(
            "...",
            "..3");
    }

    private static void refusedChangesNothing() {
        of("Promise 7", "- 3, changing nothing: none such cells, nodes, or an end is barred, or both are one");
        CorridorCells c = smallGrid();
        yes("cell(2, 0, 4, 0)", c.cell(2, 0, 4, 0));
        due("run", c.run(0, 0, 2, 0, 40), 2);
        due("unlike", c.unlike(0, 1), 2);
        refuseAll(c);
        dueWay("the way at hand", c, 0, 0, 1, 1, 2, 0);
        due("bound()", c.bound(), 56);
        yes("proved()", c.proved());
        yes("its cell is dearer", c.cell(1, 1, 9, 0));
        dueSpan("both ways are found still", c, 0, -1, 1, -1, 1);
        // 8 labels of the end, 8 of each shared cell, 3 of the bridge are fewer than 40
        due("and their cells are shared still", c.unlike(0, 1), NONE);
        refuseAll(c);
        dueWay("the way at hand once more", c, 0, 0, 1, 1, 2, 0);
    }

    private static void refusedAtFirst() {
        of("Promise 7", "- 3, changing nothing: none such cells, nodes, or an end is barred, or both are one");
        CorridorCells c = smallGrid();
        refuseAll(c);
        due("no way", c.turns(), BAD);
        due("no bound", c.bound(), -1);
        no("nothing proved", c.proved());
        due("none found", c.unlike(1, 1), REFUSED);
    }

    private static void refusedAfterSpent() {
        of("Promise 7", "- 3, changing nothing: none such cells, nodes, or an end is barred, or both are one");
        CorridorCells c = smallGrid();
        due("8 labels of the end, 2 between, 3 of the bridge, 2 of the first cell", c.run(0, 0, 2, 0, 15), 2);
        refuseAll(c);
        due("nodes are those of the last run", c.unlike(0, 1), SPENT);
        due("spent", c.run(0, 0, 2, 0, 3), SPENT);
        refuseAll(c);
        due("no way is at hand", c.at(0, 0), BAD);
        no("nothing is proved", c.proved());
    }

    private static void onlyOneIsFound() {
        of("Promise 7", "It is the way AT HAND then, and the only one that is FOUND");
        CorridorCells c = new CorridorCells(3, 3);
        for (int round = 0; round < 3; round++) {
            yes("cell(1, 0, 0, 0)", c.cell(1, 0, 0, 0));
            due("run", c.run(0, 0, 2, 0, FAR), 2);
            dueWay("it is at hand", c, 0, 0, 1, 0, 2, 0);
            yes("it gets dear", c.cell(1, 0, 50, 0));
            dueSpan("no other is found", c, 0, 0, 1, 1, 0);
            due("no cell of others is shared", c.unlike(0, 1), 2);
            dueWay("the next one", c, 0, 0, 1, 1, 2, 0);
            for (int i = 2; i < 6; i++) {
                due("as many as at first", c.unlike(1, 1), 2);
            }
            due("6 are", c.unlike(1, 1), REFUSED);
        }
        due("other ends", c.run(2, 2, 0, 2, FAR), 2);
        due("the way of those ends", c.unlike(1, 1), 2);
        due("from there", c.at(0, 0) * 10 + c.at(0, 1), 22);
        due("to there", c.at(2, 0) * 10 + c.at(2, 1), 2);
    }

    /** To the dear end it is 90 by either corner, of which one gets dearer by 10, and 126 athwart. */
    private static void cellsOfOthersAreNotShared() {
        of("Promise 7", "the only one that is FOUND");
        for (int corner = 0; corner < 2; corner++) {
            CorridorCells c = new CorridorCells(2, 2);
            yes("a dear end", c.cell(1, 0, 9, 0));
            yes("the other corner is dearer", c.cell(1 - corner, 1 - corner, 1, 0));
            due("run", c.run(0, 1, 1, 0, FAR), 2);
            dueWay("by this corner", c, 0, 1, corner, corner, 1, 0);
            yes("now this corner is dearer", c.cell(corner, corner, 1, 0) && c.cell(1 - corner, 1 - corner, 0, 0));
            due("run", c.run(0, 1, 1, 0, FAR), 2);
            dueWay("by the other corner", c, 0, 1, 1 - corner, 1 - corner, 1, 0);
            due("this corner is not shared any more", c.unlike(0, 1), 2);
            dueWay("by this corner again", c, 0, 1, corner, corner, 1, 0);
            due("athwart", c.unlike(0, 1), 1);
        }
    }

    private static void dueNoWay(String what, CorridorCells c) {
        for (int i = 0; i < 3; i++) {
            due(what + ": at(0, " + i + ")", c.at(0, i), BAD);
        }
        for (int i = 0; i < 4; i++) {
            due(what + ": cost", c.cost(i / 2), BAD);
            due(what + ": span", c.span(0, i / 2, i % 2), BAD);
        }
        due(what + ": sum(0)", c.sum(0), BAD);
        due(what + ": turns()", c.turns(), BAD);
        no(what + ": keeps()", c.keeps());
        due(what + ": unlike(1, 1)", c.unlike(1, 1), REFUSED);
        due(what + ": unlike(0, 1)", c.unlike(0, 1), REFUSED);
    }

    private static void elseThereIsNone() {
        of("Promise 7", "else there is none");
        CorridorCells c = drawn("...", "##.", "#.#");
        dueNoWay("at first", c);
        due("run", c.run(0, 0, 2, 0, FAR), 2);
        due("at(0, 2)", c.at(0, 2), 16);
        due("spent", c.run(0, 0, 2, 0, 2), SPENT);
        dueNoWay("spent", c);
        due("run", c.run(0, 0, 2, 0, FAR), 2);
        due("a second one", c.unlike(1, 1), 2);
        yes("bar(2, 1)", c.bar(2, 1));
        due("no way", c.run(0, 0, 1, 2, FAR), NONE);
        dueNoWay("no way", c);
    }

    private static void placesOfAWay() {
        of("Promise 8", "0 its first cell: 0 x, 1 y, 2 the heading by which it is come to (16 at first)");
        CorridorCells c = new CorridorCells(2, 2);
        due("the shortest way", c.run(1, 1, 0, 0, FAR), 1);
        int[][] due = {{1, 1, 16}, {0, 0, 10}};
        for (int k = 0; k < 2; k++) {
            for (int axis = 0; axis < 3; axis++) {
                due("at(" + k + ", " + axis + ")", c.at(k, axis), due[k][axis]);
            }
        }
        CorridorCells d = drawn("..", "#.", "..");
        due("run", d.run(0, 0, 0, 2, FAR), 2);
        due("by heading 2", d.at(1, 2), 2);
        due("then by 6", d.at(2, 2), 6);
        yes("told of later", d.bar(0, 0) && d.bar(1, 1) && d.moves(1, 0, 0));
        due("places stay", d.at(1, 0) * 10 + d.at(1, 1), 11);
    }

    /** Rows that are joined at their ends in turn: 6 rows of 11 moves, 5 times 2 between them. */
    private static void placesOfALongWay() {
        of("Promise 8", "Of place k of the way at hand");
        String wallRight = "###########.";
        String wallLeft = ".###########";
        String open = "............";
        CorridorCells c = drawn(open, wallRight, open, wallLeft, open, wallRight, open, wallLeft, open, wallRight, open);
        due("all rows", c.run(0, 0, 0, 10, FAR), 76);
        due("all their turns", c.turns(), 10);
        for (int k = 0; k <= 76; k++) {
            int row = k / 13;
            int step = k % 13;
            int forth = row % 2 == 0 ? Math.min(11, step) : 11 - Math.min(11, step);
            due("at(" + k + ", 0)", c.at(k, 0), forth);
            due("at(" + k + ", 1)", c.at(k, 1), 2 * row + Math.max(0, step - 11));
        }
        due("behind it", c.at(77, 0), BAD);
    }

    private static void noSuchPlace() {
        of("Promise 8", "BAD: none such");
        CorridorCells c = new CorridorCells(3, 1);
        for (int k = -1; k <= 3; k++) {
            due("no way", c.at(k, 0), BAD);
        }
        due("run", c.run(0, 0, 2, 0, FAR), 2);
        int[] noPlaces = {-1, 3, 4, 100, LEAST, GREATEST};
        for (int k : noPlaces) {
            for (int axis = 0; axis < 3; axis++) {
                due("at(" + k + ", " + axis + ")", c.at(k, axis), BAD);
            }
        }
        int[] noAxes = {-1, 3, LEAST, GREATEST};
        for (int axis : noAxes) {
            for (int k = 0; k < 3; k++) {
                due("at(" + k + ", " + axis + ")", c.at(k, axis), BAD);
            }
        }
        due("a shorter way", c.run(0, 0, 1, 0, FAR), 1);
        due("no place of the longer one", c.at(2, 0), BAD);
    }

    private static void costsAsTheyAreNow() {
        of("Promise 9", "The cost of the way at hand, with what costs are now");
        CorridorCells c = new CorridorCells(3, 1);
        due("run", c.run(0, 0, 2, 0, FAR), 2);
        dueCost("nothing", c, 0, 1);
        yes("cell(1, 0, 2, 0)", c.cell(1, 0, 2, 0));
        dueCost("a cost", c, 20, 1);
        yes("aim(3, 1, 0, 1)", c.aim(3, 1, 0, 1));
        yes("weight(3, 1, 1)", c.weight(3, 1, 1));
        dueCost("a value", c, 30, 1);
        due("mark(0, 1, 0, 1)", c.mark(0, 1, 0, 1), 1);
        dueCost("a mark", c, 130, 1);
        yes("bridge(1, 0, 1, 5)", c.bridge(1, 0, 1, 5));
        dueCost("no bridge yet", c, 130, 1);
        yes("bar(1, 0)", c.bar(1, 0));
        dueCost("a bridge", c, 50, 1);
        yes("bridge(1, 0, 1, 6)", c.bridge(1, 0, 1, 6));
        dueCost("another bridge", c, 60, 1);
        due("bound() is as it was", c.bound(), 0);
    }

    private static void costInLeastTerms() {
        of("Promise 9", "a fraction in least terms: part 0 upper, 1 lower");
        CorridorCells c = new CorridorCells(3, 2);
        yes("moves(2, 9999, 8)", c.moves(2, 9999, 8));
        due("run", c.run(0, 0, 2, 1, FAR), 1);
        dueCost("0 is 0 / 1", c, 0, 1);
        yes("values", c.aim(0, 2, 1, 1) && c.aim(1, 2, 1, 1) && c.aim(2, 2, 1, 1));
        yes("weight(0, 1, 4)", c.weight(0, 1, 4));
        dueCost("22 fourths", c, 11, 2);
        yes("weight(1, 1, 5)", c.weight(1, 1, 5));
        dueCost("22 times 9 twentieths", c, 99, 10);
        yes("weight(2, 1, 3)", c.weight(2, 1, 3));
        dueCost("22 times 47 sixtieths", c, 517, 30);
        yes("weight(2, 1, 6)", c.weight(2, 1, 6));
        dueCost("22 times 37 sixtieths", c, 407, 30);
        yes("weight(0, 2, 6)", c.weight(0, 2, 6));
        dueCost("22 times 7 tenths", c, 77, 5);
        yes("weight(1, 5, 5)", c.weight(1, 5, 5));
        dueCost("22 times 3 halves", c, 33, 1);
    }

    private static void noSuchPart() {
        of("Promise 9", "BAD: none such");
        CorridorCells c = new CorridorCells(2, 1);
        int[] parts = {-1, 2, LEAST, GREATEST, 0, 1};
        for (int part : parts) {
            due("no way, part " + part, c.cost(part), BAD);
        }
        due("run", c.run(0, 0, 1, 0, FAR), 1);
        for (int i = 0; i < 4; i++) {
            due("cost(" + parts[i] + ")", c.cost(parts[i]), BAD);
        }
    }

    private static void boundOfTheLastCall() {
        of("Promise 10", "Of the last run() or unlike() that was not refused: the cost of the label that was closed last");
        CorridorCells c = new CorridorCells(3, 1);
        yes("costs", c.cell(1, 0, 4, 0) && c.cell(2, 0, 3, 0));
        due("run", c.run(0, 0, 2, 0, FAR), 2);
        due("the way's", c.bound(), 70);
        due("a further way", c.unlike(0, 1), NONE);
        due("the last of the cell between", c.bound(), 30);
        due("refused", c.unlike(2, 1), REFUSED);
        due("refused", c.run(0, 0, 0, 0, FAR), REFUSED);
        due("as before", c.bound(), 30);
        due("the way again", c.unlike(1, 1), 2);
        due("the way's", c.bound(), 70);
        due("spent", c.run(0, 0, 2, 0, 9), SPENT);
        due("the first of the cell between", c.bound(), 30);
        due("spent", c.run(0, 0, 2, 0, 1), SPENT);
        due("the end's", c.bound(), 0);
    }

    private static void boundCutOff() {
        of("Promise 10", "cut off to a whole number");
        CorridorCells c = new CorridorCells(2, 1);
        yes("aim(0, 1, 0, 1)", c.aim(0, 1, 0, 1));
        long[][] weights = {{0, 1}, {1, 6}, {1, 5}, {1, 4}, {2, 6}, {5, 6}, {19, 6}, {20, 6}, {20, 1}};
        long[] bounds = {0, 1, 2, 2, 3, 8, 31, 33, 200};
        for (int i = 0; i < weights.length; i++) {
            yes("weight", c.weight(0, weights[i][0], weights[i][1]));
            due("run", c.run(0, 0, 1, 0, FAR), 1);
            due("bound() by weight " + weights[i][0] + " / " + weights[i][1], c.bound(), bounds[i]);
        }
        due("by weights as they were", c.weight(0, 0, 1) ? c.bound() : BAD, 200);
    }

    private static void boundOfNone() {
        of("Promise 10", "- 1, if none was closed, or there was no such call");
        CorridorCells c = new CorridorCells(3, 1);
        due("at first", c.bound(), -1);
        yes("cell(2, 0, 9, 0)", c.cell(2, 0, 9, 0));
        due("after another call", c.bound(), -1);
        due("refused", c.run(0, 0, 3, 0, FAR), REFUSED);
        due("refused", c.run(0, 0, 2, 0, 0), REFUSED);
        due("refused", c.unlike(1, 1), REFUSED);
        due("after refused ones", c.bound(), -1);
        due("one label", c.run(0, 0, 2, 0, 1), SPENT);
        due("after one label", c.bound(), 0);
    }

    private static void proved() {
        of("Promise 11", "told a way, or that there is none");
        CorridorCells c = new CorridorCells(3, 1);
        no("at first", c.proved());
        due("a way", c.run(0, 0, 2, 0, 11), 2);
        yes("a way", c.proved());
        due("spent", c.run(0, 0, 2, 0, 10), SPENT);
        no("spent", c.proved());
        yes("bar(1, 0)", c.bar(1, 0));
        due("spent", c.run(0, 0, 2, 0, 7), SPENT);
        no("spent", c.proved());
        due("none", c.run(0, 0, 2, 0, 8), NONE);
        yes("none", c.proved());
    }

    private static void provedOfTheLastCall() {
        of("Promise 11", "Whether the last run() or unlike() that was not refused");
        CorridorCells c = new CorridorCells(3, 1);
        due("refused", c.run(0, 0, 0, 0, FAR), REFUSED);
        no("no such call", c.proved());
        due("run", c.run(0, 0, 2, 0, 11), 2);
        due("refused", c.run(0, 0, 0, 0, 1), REFUSED);
        due("refused", c.unlike(1, 0), REFUSED);
        yes("as before", c.proved());
        due("spent", c.unlike(0, 1), SPENT);
        no("spent", c.proved());
        due("refused", c.unlike(-1, 1), REFUSED);
        no("as before", c.proved());
        due("a further way", c.unlike(1, 1), 2);
        yes("a further way", c.proved());
        due("run", c.run(0, 0, 2, 0, FAR), 2);
        due("no further way", c.unlike(0, 1), NONE);
        yes("no further way", c.proved());
    }
}
