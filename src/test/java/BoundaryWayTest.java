/** Boundary cases of what is asked of ways (promises 13, 17, 18, 19): a test for each sentence. */
public final class BoundaryWayTest extends Check {
    private static final int LEAST = Integer.MIN_VALUE, GREATEST = Integer.MAX_VALUE;

    public static void main(String[] args) {
        spanOfOneWay();
        spanFromNothing();
        spanWithOtherWeights();
        spanAgainstAllWays();
        spanOfOneWeight();
        spanOfWeightsCloseBy();
        spanOfTheEnds();
        spanAsCostsAreNow();
        spanWithMarksAndBridges();
        spanInLeastTerms();
        spanAboveAllWeights();
        spanWithoutGreatest();
        spanOfNone();
        noSuchSpan();
        sumOfAZone();
        sumEachTime();
        noSuchSum();
        turns();
        noTurns();
        keepsSlopes();
        keepsTurns();
        keepsReach();
        keepsBarredCells();
        keepsStraightOverBridges();
        keepsMosts();
        keepsEnds();
        keepsWhatDoesNotMatter();
        keepsNone();
        end();
    }

    /**
     * Three ways from (0, 0) to (2, 0) are found: over (1, 0) by a length of 10, over (1, 1) by 14, and at hand the one
     * over (0, 2), by 10. Other cells cost nothing.
     */
    private static CorridorCells threeWays() {
        CorridorCells c = new CorridorCells(3, 3);
        due("run", c.run(0, 0, 2, 0, FAR), 2);
        due("the second", c.unlike(0, 1), 2);
        due("the third", c.unlike(0, 1), 6);
        return c;
    }

    private static void tell(CorridorCells c, int x, int y, int cost, long value) {
        yes("cell(" + x + ", " + y + ", " + cost + ", 0)", c.cell(x, y, cost, 0));
        yes("aim(0, " + x + ", " + y + ", " + value + ")", c.aim(0, x, y, value));
    }

    private static void spanOfOneWay() {
        of("Promise 13", "for which no way found costs less than the one at hand");
        CorridorCells c = new CorridorCells(2, 1);
        tell(c, 1, 0, 999, 999);
        due("run", c.run(0, 0, 1, 0, FAR), 1);
        for (int aim = 0; aim < 4; aim++) {
            dueSpan("no other way", c, aim, 0, 1, 1, 0);
        }
    }

    private static void spanFromNothing() {
        of("Promise 13", "Weights of an aim (0 or above");
        CorridorCells c = threeWays();
        dueSpan("all cost nothing", c, 0, 0, 1, 1, 0);
        tell(c, 0, 2, 5, 10);
        tell(c, 1, 0, 6, 20);
        tell(c, 1, 1, 20, 10);
        dueSpan("by weights above - 1 / 10 too", c, 0, 0, 1, 1, 0);
        tell(c, 1, 0, 5, 9);
        dueSpan("as cheap by 0 alone", c, 0, 0, 1, 0, 1);
        tell(c, 1, 0, 4, 9);
        dueSpan("by no weight from 0 on", c, 0, -1, 1, -1, 1);
    }

    private static void spanWithOtherWeights() {
        of("Promise 13", "others being what they are");
        CorridorCells c = threeWays();
        tell(c, 0, 2, 0, 10);
        tell(c, 1, 1, 99, 99);
        yes("aim(1, 1, 0, 3)", c.aim(1, 1, 0, 3));
        dueSpan("100 w against nothing", c, 0, 0, 1, 0, 1);
        yes("weight(1, 1, 6)", c.weight(1, 1, 6));
        dueSpan("100 w against 5", c, 0, 0, 1, 1, 20);
        yes("weight(0, 20, 1)", c.weight(0, 20, 1));
        dueSpan("its own weight does not count", c, 0, 0, 1, 1, 20);
        dueSpan("but for another aim: 2,000 against 30 w", c, 1, 200, 3, 1, 0);
    }

    private static void spanAgainstAllWays() {
        of("Promise 13", "for which no way found costs less than the one at hand");
        CorridorCells c = threeWays();
        tell(c, 0, 2, 5, 10);
        tell(c, 1, 0, 1, 50);
        tell(c, 1, 1, 50, 0);
        dueSpan("50 + 100 w, 10 + 500 w, 700", c, 0, 1, 10, 13, 2);
        tell(c, 1, 0, 50, 0);
        tell(c, 1, 1, 1, 50);
        dueSpan("50 + 100 w, 500, 14 + 700 w", c, 0, 3, 50, 9, 2);
        tell(c, 1, 0, 1, 50);
        dueSpan("two least ones, the greater counts", c, 0, 1, 10, 1, 0);
        tell(c, 1, 0, 50, 0);
        tell(c, 1, 1, 50, 0);
        dueSpan("two greatest ones, the lesser counts", c, 0, 0, 1, 9, 2);
    }

    private static void spanOfOneWeight() {
        of("Promise 13", "the least (end 0) or greatest (1) one");
        CorridorCells c = threeWays();
        tell(c, 0, 2, 5, 10);
        tell(c, 1, 0, 1, 30);
        tell(c, 1, 1, 5, 0);
        dueSpan("50 + 100 w, 10 + 300 w, 70: a fifth alone", c, 0, 1, 5, 1, 5);
        tell(c, 1, 0, 0, 30);
        dueSpan("a little less: none", c, 0, -1, 1, -1, 1);
        tell(c, 1, 0, 2, 30);
        dueSpan("a little more: a few", c, 0, 3, 20, 1, 5);
    }

    private static void spanOfWeightsCloseBy() {
        of("Promise 13", "the least (end 0) or greatest (1) one");
        CorridorCells c = threeWays();
        tell(c, 0, 2, 8, 0);
        tell(c, 1, 0, 3, 13);
        tell(c, 1, 1, 0, 15);
        dueSpan("at least 5 / 13 and 8 / 21", c, 0, 5, 13, 1, 0);
        tell(c, 1, 0, 0, 21);
        tell(c, 1, 1, 0, 14);
        dueSpan("at least 8 / 21 and 20 / 49", c, 0, 20, 49, 1, 0);
        tell(c, 0, 2, 0, 13);
        tell(c, 1, 0, 5, 0);
        tell(c, 1, 1, 4, 0);
        dueSpan("at most 5 / 13 and 28 / 65", c, 0, 0, 1, 5, 13);
        tell(c, 1, 0, 6, 0);
        dueSpan("at most 6 / 13 and 28 / 65", c, 0, 0, 1, 28, 65);
    }

    /** The way at hand comes to the end by a length of 14, the first one by 10. */
    private static void spanOfTheEnds() {
        of("Promise 13", "by costs as they are now");
        CorridorCells c = new CorridorCells(3, 2);
        due("run", c.run(0, 0, 2, 0, FAR), 2);
        due("the second", c.unlike(0, 1), 2);
        tell(c, 0, 0, 999, 999);
        dueSpan("the first cell counts for none", c, 0, 0, 1, 1, 0);
        tell(c, 2, 0, 0, 10);
        dueSpan("140 w against 100 w", c, 0, 0, 1, 0, 1);
        tell(c, 1, 0, 4, 0);
        dueSpan("140 w against 40 + 100 w", c, 0, 0, 1, 1, 1);
        tell(c, 2, 0, 10, 10);
        dueSpan("140 + 140 w against 140 + 100 w", c, 0, 0, 1, 0, 1);
    }

    private static void spanAsCostsAreNow() {
        of("Promise 13", "by costs as they are now");
        CorridorCells c = threeWays();
        tell(c, 1, 1, 99, 0);
        tell(c, 1, 0, 0, 3);
        dueSpan("nothing against 30 w", c, 0, 0, 1, 1, 0);
        tell(c, 0, 2, 1, 0);
        dueSpan("10 against 30 w", c, 0, 1, 3, 1, 0);
        tell(c, 0, 2, 2, 0);
        dueSpan("20 against 30 w", c, 0, 2, 3, 1, 0);
        yes("bar(1, 0)", c.bar(1, 0));
        dueSpan("a barred cell costs what it did", c, 0, 2, 3, 1, 0);
        yes("the end costs each way the same", c.cell(2, 0, 0, 0) && c.moves(1, 0, 0));
        dueSpan("what ways must keep does not count", c, 0, 2, 3, 1, 0);
    }

    private static void spanWithMarksAndBridges() {
        of("Promise 13", "by costs as they are now");
        CorridorCells c = threeWays();
        tell(c, 1, 1, 99, 0);
        yes("cell(0, 2, 3, 0)", c.cell(0, 2, 3, 0));
        yes("aim(3, 1, 0, 5)", c.aim(3, 1, 0, 5));
        dueSpan("30 against 50 w", c, 3, 3, 5, 1, 0);
        due("mark(0, 1, 0, 1)", c.mark(0, 1, 0, 1), 1);
        dueSpan("30 against 150 w", c, 3, 1, 5, 1, 0);
        yes("bridge(1, 0, 1, 3)", c.bridge(1, 0, 1, 3));
        dueSpan("no bridge yet", c, 3, 1, 5, 1, 0);
        yes("bar(1, 0)", c.bar(1, 0));
        dueSpan("30 against 30", c, 3, 0, 1, 1, 0);
        yes("bridge(1, 0, 1, 2)", c.bridge(1, 0, 1, 2));
        dueSpan("30 against 20", c, 3, -1, 1, -1, 1);
    }

    private static void spanInLeastTerms() {
        of("Promise 13", "part 0 upper, 1 lower, in least terms");
        CorridorCells c = threeWays();
        yes("aims of sixtieths", c.weight(1, 1, 4) && c.weight(2, 1, 5) && c.weight(3, 1, 6));
        for (int aim = 1; aim < 4; aim++) {
            yes("aim(aim, 0, 2, 1)", c.aim(aim, 0, 2, 1));
        }
        tell(c, 1, 1, 0, 999);
        tell(c, 1, 0, 999, 0);
        dueSpan("37 / 6 is at most 13,986 w", c, 0, 1, 2268, 1, 0);
        tell(c, 0, 2, 0, 14);
        dueSpan("37 / 6 + 140 w is at most 13,986 w and 9,990", c, 0, 37, 83076, 59903, 840);
    }

    private static void spanAboveAllWeights() {
        of("Promise 13", "the least (end 0) or greatest (1) one");
        CorridorCells c = threeWays();
        tell(c, 0, 2, 999, 0);
        tell(c, 1, 0, 0, 1);
        tell(c, 1, 1, 0, 999);
        dueSpan("a weight may have to be 999, which none can be told", c, 0, 999, 1, 1, 0);
    }

    private static void spanWithoutGreatest() {
        of("Promise 13", "without a greatest one 1 / 0");
        CorridorCells c = threeWays();
        tell(c, 0, 2, 0, 7);
        tell(c, 1, 0, 0, 7);
        tell(c, 1, 1, 0, 5);
        dueSpan("70 w, 70 w, 70 w", c, 0, 0, 1, 1, 0);
        tell(c, 0, 2, 0, 6);
        dueSpan("60 w, 70 w, 70 w", c, 0, 0, 1, 1, 0);
        tell(c, 0, 2, 0, 8);
        dueSpan("80 w, 70 w, 70 w", c, 0, 0, 1, 0, 1);
    }

    private static void spanOfNone() {
        of("Promise 13", "If there are none such: - 1 / 1");
        CorridorCells c = threeWays();
        tell(c, 0, 2, 1, 7);
        tell(c, 1, 0, 0, 7);
        tell(c, 1, 1, 9, 9);
        dueSpan("10 more by each weight", c, 0, -1, 1, -1, 1);
        dueSpan("an aim without values", c, 2, -1, 1, -1, 1);
        tell(c, 1, 0, 0, 6);
        dueSpan("more by each weight", c, 0, -1, 1, -1, 1);
        tell(c, 1, 0, 0, 8);
        dueSpan("70 w + 10 against 80 w", c, 0, 1, 1, 1, 0);
    }

    private static void noSuchSpan() {
        of("Promise 13", "BAD: no such aim, end, part; no way at hand");
        CorridorCells c = new CorridorCells(2, 1);
        int[][] wrong = {{-1, 0, 0}, {4, 0, 0}, {LEAST, 0, 1}, {GREATEST, 1, 1}, {0, -1, 1}, {0, 2, 1}, {0, LEAST, 0},
            {0, GREATEST, 1}, {0, 0, -1}, {0, 1, 2}, {0, 0, LEAST}, {0, 1, GREATEST}, {4, 2, 2}, {-1, -1, -1}};
        for (int round = 0; round < 2; round++) {
            for (int[] told : wrong) {
                due("span(" + told[0] + ", " + told[1] + ", " + told[2] + ")", c.span(told[0], told[1], told[2]), BAD);
            }
            for (int i = 0; i < 16 && round == 0; i++) {
                due("no way at hand", c.span(i / 4, i / 2 % 2, i % 2), BAD);
            }
            due("run", c.run(0, 0, 1, 0, FAR), 1);
        }
    }

    private static void sumOfAZone() {
        of("Promise 17", "The sum of the costs of all cells in a zone to which the way at hand comes, its first one too");
        CorridorCells c = new CorridorCells(9, 2);
        due("run", c.run(0, 0, 8, 0, FAR), 8);
        for (int x = 0; x < 9; x++) {
            yes("cell(x, 0, 999, 0)", c.cell(x, 0, 999, 0) && c.cell(x, 1, 500, 0));
        }
        due("all in zone 0", c.sum(0), 9 * 999);
        for (int x = 0; x < 8; x++) {
            due("zone(x, x, 0)", c.zone(x, x, 0), 0);
            due("zone(x, x, 1)", c.zone(x, x, 1), 0);
        }
        due("the first and the last cell", c.sum(0), 2 * 999);
        for (int zone = 1; zone < 8; zone++) {
            due("one cell of the way each", c.sum(zone), 999);
            yes("for nothing", c.cell(zone, 0, 0, 0));
            due("it costs nothing", c.sum(zone), 0);
        }
        due("zone(3, 0, 0)", c.zone(3, 0, 0), 0);
        due("the last one alone", c.sum(0), 999);
        due("a cell for nothing and the first one", c.sum(3), 999);
        yes("values", c.aim(0, 0, 0, 9) && c.weight(0, 1, 1) && c.bridge(0, 0, 1, 9) && c.bar(0, 0));
        due("neither values nor cents", c.sum(3), 999);
    }

    private static void sumEachTime() {
        of("Promise 17", "each time");
        CorridorCells c = thereAndBack();
        due("run", c.run(2, 1, 0, 0, FAR), 6);
        yes("the cell that is come to twice", c.cell(3, 0, 5, 0));
        due("twice", c.sum(0), 10);
        yes("the first cell", c.cell(2, 1, 1, 0));
        due("once", c.sum(0), 11);
        due("zone(7, 3, 0)", c.zone(7, 3, 0), 0);
        due("twice in its zone", c.sum(7), 10);
        due("no more in the other", c.sum(0), 1);
    }

    private static void noSuchSum() {
        of("Promise 17", "BAD: no such zone; no way at hand");
        CorridorCells c = new CorridorCells(2, 1);
        int[] noZones = {-1, 8, LEAST, GREATEST};
        for (int zone = 0; zone < 8; zone++) {
            due("no way at hand", c.sum(zone), BAD);
        }
        due("run", c.run(0, 0, 1, 0, FAR), 1);
        for (int zone : noZones) {
            due("sum(" + zone + ")", c.sum(zone), BAD);
        }
        for (int zone = 0; zone < 8; zone++) {
            due("a zone without cells sums up to 0", c.sum(zone), 0);
        }
    }

    private static void turns() {
        of("Promise 18", "Turns of the way at hand");
        CorridorCells c = new CorridorCells(12, 2);
        due("one move", c.run(0, 0, 1, 1, FAR), 1);
        due("has none", c.turns(), 0);
        due("eleven straight ones", c.run(0, 0, 11, 0, FAR), 11);
        due("have none", c.turns(), 0);
        CorridorCells bent = drawn(
            ".#.#.#",
            "#.#.#.");
        due("up and down", bent.run(0, 0, 5, 1, FAR), 5);
        due("each move but the first", bent.turns(), 4);
        yes("told of later", bent.moves(1, 0, 0) && bent.bar(1, 1));
        due("turns stay", bent.turns(), 4);
    }

    private static void noTurns() {
        of("Promise 18", "BAD: none");
        CorridorCells c = drawn("..#.");
        due("at first", c.turns(), BAD);
        due("run", c.run(0, 0, 1, 0, FAR), 1);
        due("refused", c.run(0, 0, 2, 0, FAR), REFUSED);
        due("the way is there still", c.turns(), 0);
        due("none", c.run(0, 0, 3, 0, FAR), NONE);
        due("after none", c.turns(), BAD);
        due("spent", c.run(0, 0, 1, 0, 9), SPENT);
        due("after spent", c.turns(), BAD);
    }

    private static void keepsSlopes() {
        of("Promise 19", "Whether the way at hand keeps all that ways must, as things are now");
        for (int x = 0; x < 3; x++) {
            CorridorCells c = new CorridorCells(3, 1);
            yes("moves(1, 6, 8)", c.moves(1, 6, 8));
            due("run", c.run(0, 0, 2, 0, FAR), 2);
            yes("level 6", c.cell(x, 0, 0, 6));
            yes("a slope of 6", c.keeps());
            yes("level 7", c.cell(x, 0, 0, 7));
            no("a slope of 7", c.keeps());
            yes("moves(1, 7, 8)", c.moves(1, 7, 8));
            yes("a slope of 7 by now", c.keeps());
        }
    }

    private static void keepsTurns() {
        of("Promise 19", "Whether the way at hand keeps all that ways must, as things are now");
        CorridorCells c = drawn(".#.", "#.#");
        due("down and up", c.run(0, 0, 2, 0, FAR), 2);
        for (int turn = 0; turn <= 8; turn++) {
            yes("moves", c.moves(1, 9999, turn));
            due("headings 2 and 14 differ by 4, turn " + turn, c.keeps(), turn >= 4);
        }
        CorridorCells back = thereAndBack();
        due("run", back.run(2, 1, 0, 0, FAR), 6);
        for (int turn = 0; turn <= 8; turn++) {
            yes("moves", back.moves(1, 9999, turn));
            due("headings 0 and 8 differ by 8, turn " + turn, back.keeps(), turn == 8);
        }
        CorridorCells one = new CorridorCells(2, 2);
        due("run", one.run(0, 1, 1, 0, FAR), 1);
        yes("moves(1, 0, 0)", one.moves(1, 0, 0));
        yes("the first move has none before it", one.keeps());
    }

    private static void keepsReach() {
        of("Promise 19", "Whether the way at hand keeps all that ways must, as things are now");
        CorridorCells c = new CorridorCells(3, 3);
        for (int heading = 0; heading < 8; heading++) {
            yes("moves(2, 9999, 0)", c.moves(2, 9999, 0));
            int x = PlainCells.HEADINGS[heading][0];
            int y = PlainCells.HEADINGS[heading][1];
            int fromX = x < 0 ? 2 : 0;
            due("run by " + heading, c.run(fromX, 0, fromX + x, y, FAR), 1);
            yes("reach 2", c.keeps());
            yes("moves(1, 9999, 0)", c.moves(1, 9999, 0));
            due("reach 1 has only even headings: " + heading, c.keeps(), heading % 2 == 0);
        }
    }

    private static void keepsBarredCells() {
        of("Promise 19", "Whether the way at hand keeps all that ways must, as things are now");
        for (int x = 0; x < 5; x++) {
            CorridorCells c = new CorridorCells(5, 2);
            due("run", c.run(0, 0, 4, 0, FAR), 4);
            yes("a cell beside it", c.bar(x, 1));
            yes("it keeps", c.keeps());
            yes("bar(" + x + ", 0)", c.bar(x, 0));
            no("it does not", c.keeps());
            yes("a bridge", c.bridge(x, 0, 1, 0));
            due("but over a bridge, if it is no end", c.keeps(), x > 0 && x < 4);
        }
    }

    private static void keepsStraightOverBridges() {
        of("Promise 19", "Whether the way at hand keeps all that ways must, as things are now");
        // the way goes by (1, 0), turns there, and by (2, 1)
        for (int x = 1; x < 5; x++) {
            CorridorCells c = drawn("..####", "##...#");
            due("run", c.run(0, 0, 4, 1, FAR), 4);
            dueWay("run", c, 0, 0, 1, 0, 2, 1, 3, 1, 4, 1);
            int y = x == 1 ? 0 : 1;
            yes("bridge and bar", c.bridge(x, y, 3, 0) && c.bar(x, y));
            no("turns at (1, 0) and (2, 1), and an end", c.keeps());
        }
        CorridorCells longer = new CorridorCells(6, 1);
        due("run", longer.run(0, 0, 5, 0, FAR), 5);
        yes("bridge and bar", longer.bridge(3, 0, 1, 0) && longer.bar(3, 0));
        yes("straight into it and out of it", longer.keeps());
        CorridorCells first = drawn(".##", "#.#", "##.");
        due("run", first.run(0, 0, 2, 2, FAR), 2);
        yes("bridge and bar", first.bridge(1, 1, 1, 0) && first.bar(1, 1));
        yes("the first move athwart into it", first.keeps());
    }

    private static void keepsMosts() {
        of("Promise 19", "Whether the way at hand keeps all that ways must, as things are now");
        String[] mosts = {"1", "11", "12", "21", "22", "122", "123", "321", "333", "1233", "3333"};
        boolean[] due = {true, false, true, false, true, false, true, false, true, false, false};
        for (int i = 0; i < mosts.length; i++) {
            int count = mosts[i].length();
            CorridorCells c = new CorridorCells(count + 2, 1);
            due("run", c.run(0, 0, count + 1, 0, FAR), count + 1);
            for (int x = 1; x <= count; x++) {
                yes("bridge and bar", c.bridge(x, 0, mosts[i].charAt(x - 1) - '0', 0) && c.bar(x, 0));
            }
            due("over " + mosts[i], c.keeps(), due[i]);
        }
        CorridorCells apart = new CorridorCells(5, 1);
        due("run", apart.run(0, 0, 4, 0, FAR), 4);
        yes("one", apart.bridge(1, 0, 1, 0) && apart.bar(1, 0));
        yes("and one behind the next", apart.bridge(3, 0, 1, 0) && apart.bar(3, 0));
        yes("they are not counted together", apart.keeps());
    }

    private static void keepsEnds() {
        of("Promise 19", "Whether the way at hand keeps all that ways must, as things are now");
        for (int x = 0; x < 2; x++) {
            CorridorCells c = new CorridorCells(2, 1);
            due("run", c.run(0, 0, 1, 0, FAR), 1);
            yes("a bridge alone", c.bridge(x, 0, 3, 0));
            yes("is no bar", c.keeps());
            yes("bar(" + x + ", 0)", c.bar(x, 0));
            no("an end is barred, though bridged", c.keeps());
        }
    }

    private static void keepsWhatDoesNotMatter() {
        of("Promise 19", "Whether the way at hand keeps all that ways must, as things are now");
        CorridorCells c = new CorridorCells(3, 2);
        due("run", c.run(0, 0, 2, 0, FAR), 2);
        yes("it is not the best any more", c.cell(1, 0, 999, 0) && c.aim(0, 1, 0, 999) && c.weight(0, 20, 1));
        due("mark", c.mark(0, 1, 0, 3), 1);
        due("zone", c.zone(7, 1, 0), 0);
        yes("it keeps", c.keeps());
        due("none of one", c.unlike(0, 1), 2);
        yes("that one keeps too", c.keeps());
        yes("its cell is barred", c.bar(1, 1));
        no("the way at hand is asked", c.keeps());
    }

    private static void keepsNone() {
        of("Promise 19", "False also: none");
        CorridorCells c = drawn("..#.");
        no("at first", c.keeps());
        due("run", c.run(0, 0, 1, 0, FAR), 1);
        yes("a way", c.keeps());
        due("none", c.run(0, 0, 3, 0, FAR), NONE);
        no("after none", c.keeps());
        due("spent", c.run(0, 0, 1, 0, 9), SPENT);
        no("after spent", c.keeps());
    }
}
