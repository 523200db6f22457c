/** Boundary cases of the document's terms: a test for each sentence that names one. */
public final class BoundaryTermsTest extends Check {
    public static void main(String[] args) {
        callsUpToTheLast();
        cellsOfTheGrid();
        numbersOfCells();
        limitsOfCells();
        limitsOfBridges();
        barredAndBridged();
        bridgeOnOthers();
        aimsAtFirst();
        marksOfPersons();
        valueWithAllMarks();
        headingsAllRound();
        headingsAtTheEdges();
        lengths();
        reach();
        differenceOfHeadings();
        differenceOfEight();
        slope();
        turn();
        barredAndNotBridged();
        straightOverBridges();
        bridgesOneBehindTheOther();
        ends();
        cellsAgain();
        costOfMoves();
        costOfWhatIsComeTo();
        turnsOfAWay();
        lessCost();
        fewerTurns();
        fewerMoves();
        lesserCell();
        labelsByHeadings();
        labelsOfBridges();
        labelsBehindBridges();
        labelsWithAnEnd();
        labelsOfSharedCells();
        bestOfALabel();
        closedByCostAndTurns();
        closedByMovesAndCode();
        closedUpToTheFirst();
        end();
    }

    private static void callsUpToTheLast() {
        of("What it is", "An object is used for at most 512 calls after it has been made");
        CorridorCells c = new CorridorCells(3, 3);
        for (int i = 0; i < 127; i++) {
            due("run", c.run(0, 0, 2, 0, FAR), 2);
            due("unlike", c.unlike(0, 1), 2);
            due("unlike", c.unlike(0, 1), 6);
            due("unlike", c.unlike(0, 1), NONE);
        }
        dueCost("calls 509 and 510", c, 0, 1);
        due("call 511", c.mark(7, 2, 2, 3), 1);
        yes("call 512", c.keeps());
    }

    private static void cellsOfTheGrid() {
        of("Terms", "CELLS are x from 0 to w - 1, y from 0 to h - 1");
        CorridorCells c = new CorridorCells(3, 2);
        for (int y = -1; y <= 2; y++) {
            for (int x = -1; x <= 3; x++) {
                boolean isCell = x >= 0 && x < 3 && y >= 0 && y < 2;
                due("cell(" + x + ", " + y + ", 0, 0)", c.cell(x, y, 0, 0), isCell);
            }
        }
    }

    /** Both ways are as good, one by (2, 0), number 2, one by (0, 1), number 3. */
    private static void numbersOfCells() {
        of("Terms", "with number y w + x");
        CorridorCells c = new CorridorCells(3, 3);
        yes("the end is high", c.cell(1, 1, 0, 10));
        yes("a step to it", c.cell(2, 0, 0, 5));
        yes("another step to it", c.cell(0, 1, 0, 5));
        yes("moves(1, 5, 8)", c.moves(1, 5, 8));
        due("run", c.run(1, 0, 1, 1, FAR), 2);
        dueWay("the lesser number", c, 1, 0, 2, 0, 1, 1);
    }

    private static void limitsOfCells() {
        of("Terms", "A cell has a COST 0 .. 999, a LEVEL 0 .. 9,999");
        CorridorCells c = new CorridorCells(1, 1);
        int[] numbers = {-2, -1, 0, 1, 998, 999, 1000, 1001, 9998, 9999, 10000, 10001};
        for (int number : numbers) {
            due("cell(0, 0, " + number + ", 0)", c.cell(0, 0, number, 0), number >= 0 && number <= 999);
            due("cell(0, 0, 0, " + number + ")", c.cell(0, 0, 0, number), number >= 0 && number <= 9999);
        }
    }

    private static void limitsOfBridges() {
        of("Terms", "may have a BRIDGE (a MOST 1 .. 3, and CENTS 0 .. 9,999)");
        CorridorCells c = new CorridorCells(1, 1);
        for (int most = -2; most <= 6; most++) {
            due("bridge(0, 0, " + most + ", 0)", c.bridge(0, 0, most, 0), most >= 1 && most <= 3);
        }
        long[] cents = {-2, -1, 0, 1, 999, 1000, 9998, 9999, 10000, 10001};
        for (long told : cents) {
            due("bridge(0, 0, 1, " + told + ")", c.bridge(0, 0, 1, told), told >= 0 && told <= 9999);
        }
    }

    private static void barredAndBridged() {
        of("Terms", "a barred one with a bridge is BRIDGED");
        CorridorCells c = new CorridorCells(3, 1);
        yes("bridge(1, 0, 1, 7)", c.bridge(1, 0, 1, 7));
        yes("bar(1, 0) behind it", c.bar(1, 0));
        due("run", c.run(0, 0, 2, 0, FAR), 2);
        dueCost("its cents", c, 70, 1);
        yes("the bridge is told again", c.bridge(1, 0, 1, 8));
        dueCost("its new cents", c, 80, 1);
        CorridorCells d = new CorridorCells(3, 1);
        yes("bar(1, 0) first", d.bar(1, 0));
        due("not yet", d.run(0, 0, 2, 0, FAR), NONE);
        yes("bridge(1, 0, 1, 7)", d.bridge(1, 0, 1, 7));
        due("run", d.run(0, 0, 2, 0, FAR), 2);
        dueCost("its cents", d, 70, 1);
    }

    private static void bridgeOnOthers() {
        of("Terms", "a bridge on others counts for nothing");
        CorridorCells c = new CorridorCells(3, 2);
        yes("bridge(1, 0, 1, 9999)", c.bridge(1, 0, 1, 9999));
        due("a turn there", c.run(0, 0, 2, 1, FAR), 2);
        dueWay("a turn there", c, 0, 0, 1, 0, 2, 1);
        dueCost("no cents", c, 0, 1);
        yes("it keeps", c.keeps());
        CorridorCells row = new CorridorCells(5, 1);
        for (int x = 1; x < 4; x++) {
            yes("bridge(x, 0, 1, 0)", row.bridge(x, 0, 1, 0));
        }
        due("nothing is counted against a most", row.run(0, 0, 4, 0, FAR), 4);
        yes("bar(1, 0)", row.bar(1, 0));
        due("one alone counts", row.run(0, 0, 4, 0, FAR), 4);
        yes("bar(3, 0)", row.bar(3, 0));
        due("the one between does not count", row.run(0, 0, 4, 0, FAR), 4);
        yes("bar(2, 0)", row.bar(2, 0));
        due("now it does", row.run(0, 0, 4, 0, FAR), NONE);
    }

    private static void aimsAtFirst() {
        of("Terms", "AIMS are 0 .. 3, each with a VALUE 0 .. 999 in each cell (0) and a WEIGHT, a fraction (0 / 1)");
        for (int aim = 0; aim < 4; aim++) {
            CorridorCells c = new CorridorCells(2, 1);
            due("run", c.run(0, 0, 1, 0, FAR), 1);
            yes("weight(aim, 20, 1)", c.weight(aim, 20, 1));
            dueCost("values are 0", c, 0, 1);
            CorridorCells d = new CorridorCells(2, 1);
            due("run", d.run(0, 0, 1, 0, FAR), 1);
            yes("aim(aim, 1, 0, 999)", d.aim(aim, 1, 0, 999));
            dueCost("weights are 0", d, 0, 1);
            yes("weight(aim, 20, 1)", d.weight(aim, 20, 1));
            dueCost("the greatest of both", d, 10 * 20 * 999, 1);
        }
    }

    private static void marksOfPersons() {
        of("Terms", "PERSONS 0 .. 7 put MARKS of kinds 0 .. 3 on cells (0: none)");
        CorridorCells c = new CorridorCells(1, 1);
        for (int person = -2; person <= 9; person++) {
            boolean isPerson = person >= 0 && person <= 7;
            for (int kind = -2; kind <= 5; kind++) {
                int due = !isPerson || kind < 0 || kind > 3 ? BAD : kind == 0 ? 0 : 1;
                due("mark(" + person + ", 0, 0, " + kind + ")", c.mark(person, 0, 0, kind), due);
            }
            due("its mark goes", c.mark(person, 0, 0, 0), isPerson ? 0 : BAD);
        }
    }

    private static void valueWithAllMarks() {
        of("Terms", "a cell's value of aim 3 is what was told, and 10 times the sum of the kinds of all marks there");
        CorridorCells c = new CorridorCells(2, 1);
        yes("aim(3, 1, 0, 999)", c.aim(3, 1, 0, 999));
        yes("weight(3, 20, 1)", c.weight(3, 20, 1));
        due("run", c.run(0, 0, 1, 0, FAR), 1);
        for (int person = 0; person < 8; person++) {
            due("mark", c.mark(person, 1, 0, 3), person + 1);
            dueCost("above 999", c, 10 * 20 * (999 + 30 * (person + 1)), 1);
        }
        yes("aim(3, 1, 0, 0)", c.aim(3, 1, 0, 0));
        dueCost("the marks alone", c, 10 * 20 * 240, 1);
        for (int kind = 2; kind >= 0; kind--) {
            due("mark", c.mark(0, 1, 0, kind), kind > 0 ? 8 : 7);
            dueCost("kind " + kind, c, 10 * 20 * (210 + 10 * kind), 1);
        }
    }

    private static int x(int heading) {
        return PlainCells.HEADINGS[heading][0];
    }

    private static int y(int heading) {
        return PlainCells.HEADINGS[heading][1];
    }

    private static void headingsAllRound() {
        of("Terms", "and 8 to 15 as 0 to 7 with both signs turned");
        int[][] told = {{1, 0}, {2, 1}, {1, 1}, {1, 2}, {0, 1}, {-1, 2}, {-1, 1}, {-2, 1}};
        CorridorCells c = new CorridorCells(5, 5);
        yes("moves(2, 9999, 0)", c.moves(2, 9999, 0));
        for (int heading = 0; heading < 8; heading++) {
            int dx = told[heading][0];
            int dy = told[heading][1];
            due("forth", c.run(2, 2, 2 + dx, 2 + dy, FAR), 1);
            due("heading forth", c.at(1, 2), heading);
            due("back", c.run(2, 2, 2 - dx, 2 - dy, FAR), 1);
            due("heading back", c.at(1, 2), heading + 8);
        }
    }

    private static void headingsAtTheEdges() {
        of("Terms", "each by a heading to the cell so far off");
        CorridorCells wide = drawn(
            ".##.",
            ".##.");
        yes("moves(2, 9999, 8)", wide.moves(2, 9999, 8));
        due("rows do not go on into the next one", wide.run(3, 0, 0, 1, FAR), NONE);
        due("nor back", wide.run(0, 1, 3, 0, FAR), NONE);
        CorridorCells high = drawn("..", "##", "##", "..");
        yes("moves(2, 9999, 8)", high.moves(2, 9999, 8));
        due("nor columns", high.run(0, 3, 1, 0, FAR), NONE);
        due("nor back", high.run(1, 0, 0, 3, FAR), NONE);
    }

    private static void lengths() {
        of("Terms", "The LENGTH of even ones is 10 (0, 4, 8, 12) or 14, of odd ones 22");
        int[] due = {10, 22, 14, 22};
        for (int heading = 0; heading < 16; heading++) {
            CorridorCells c = new CorridorCells(5, 5);
            yes("moves(2, 9999, 0)", c.moves(2, 9999, 0));
            yes("cell", c.cell(2 + x(heading), 2 + y(heading), 1, 0));
            due("run by " + heading, c.run(2, 2, 2 + x(heading), 2 + y(heading), FAR), 1);
            dueCost("length of " + heading, c, due[heading % 4], 1);
        }
    }

    private static void reach() {
        of("Terms", "REACH 1 has the even ones, REACH 2 all");
        CorridorCells c = new CorridorCells(5, 5);
        for (int heading = 0; heading < 16; heading++) {
            yes("moves(1, 9999, 0)", c.moves(1, 9999, 0));
            int due = heading % 2 == 0 ? 1 : NONE;
            due("reach 1, heading " + heading, c.run(2, 2, 2 + x(heading), 2 + y(heading), FAR), due);
            yes("moves(2, 9999, 0)", c.moves(2, 9999, 0));
            due("reach 2, heading " + heading, c.run(2, 2, 2 + x(heading), 2 + y(heading), FAR), 1);
        }
    }

    /** Of each two headings that are not opposite: the levels leave only the way of one move by each. */
    private static void differenceOfHeadings() {
        of("Terms", "Two headings DIFFER by the lesser way round, 0 .. 8");
        for (int pair = 0; pair < 256; pair++) {
            int one = pair / 16;
            int other = pair % 16;
            int apart = Math.min((one - other + 16) % 16, (other - one + 16) % 16);
            if (apart == 8) {
                continue;
            }
            CorridorCells c = new CorridorCells(9, 9);
            for (int i = 0; i < 81; i++) {
                c.cell(i % 9, i / 9, 0, 9999);
            }
            int midX = 4 + x(one);
            int midY = 4 + y(one);
            c.cell(4, 4, 0, 0);
            c.cell(midX, midY, 0, 1);
            c.cell(midX + x(other), midY + y(other), 0, 2);
            yes("moves(2, 1, apart)", c.moves(2, 1, apart));
            due(one + " and " + other, c.run(4, 4, midX + x(other), midY + y(other), FAR), 2);
            if (apart > 0) {
                yes("moves(2, 1, apart - 1)", c.moves(2, 1, apart - 1));
                no(one + " and " + other + " are too far apart", c.keeps());
                due(one + " and " + other, c.run(4, 4, midX + x(other), midY + y(other), FAR), NONE);
            }
        }
    }

    private static void differenceOfEight() {
        of("Terms", "Two headings DIFFER by the lesser way round, 0 .. 8");
        CorridorCells c = thereAndBack();
        due("a turn of 8", c.run(2, 1, 0, 0, FAR), 6);
        yes("moves(1, 9999, 7)", c.moves(1, 9999, 7));
        no("a turn of 7", c.keeps());
        due("a turn of 7", c.run(2, 1, 0, 0, FAR), NONE);
    }

    private static void slope() {
        of("Terms", "at most SLOPE between both levels");
        CorridorCells c = new CorridorCells(2, 1);
        int[] slopes = {0, 1, 5000, 9998, 9999};
        for (int slope : slopes) {
            yes("moves(1, slope, 8)", c.moves(1, slope, 8));
            yes("just so high", c.cell(1, 0, 0, slope));
            due("up " + slope, c.run(0, 0, 1, 0, FAR), 1);
            due("down " + slope, c.run(1, 0, 0, 0, FAR), 1);
            if (slope < 9999) {
                yes("one more", c.cell(1, 0, 0, slope + 1));
                due("up one more than " + slope, c.run(0, 0, 1, 0, FAR), NONE);
                due("down one more than " + slope, c.run(1, 0, 0, 0, FAR), NONE);
            }
        }
        CorridorCells bridge = drawn(".1.");
        yes("a high bridge", bridge.cell(1, 0, 0, 6) && bridge.moves(1, 6, 8));
        due("bridges have levels too", bridge.run(0, 0, 2, 0, FAR), 2);
        yes("moves(1, 5, 8)", bridge.moves(1, 5, 8));
        due("a bridge that is too high", bridge.run(0, 0, 2, 0, FAR), NONE);
    }

    private static void turn() {
        of("Terms", "a move's heading differs from that of the move before by at most TURN");
        CorridorCells c = new CorridorCells(4, 4);
        yes("moves(1, 9999, 0)", c.moves(1, 9999, 0));
        int[][] straight = {{3, 0}, {3, 3}, {0, 3}, {1, 1}};
        for (int[] xy : straight) {
            due("the first move may have any heading", c.run(0, 0, xy[0], xy[1], FAR), Math.max(xy[0], xy[1]));
        }
        due("but no other than that", c.run(0, 0, 3, 1, FAR), NONE);
        yes("moves(1, 9999, 1)", c.moves(1, 9999, 1));
        due("even ones differ by 2", c.run(0, 0, 3, 1, FAR), NONE);
        yes("moves(1, 9999, 2)", c.moves(1, 9999, 2));
        due("by 2", c.run(0, 0, 3, 1, FAR), 3);
    }

    private static void barredAndNotBridged() {
        of("Terms", "no cell that is barred and not bridged");
        CorridorCells wall = drawn(
            "..#..",
            "..#..");
        due("through a wall", wall.run(0, 0, 4, 0, FAR), NONE);
        yes("moves(2, 9999, 8)", wall.moves(2, 9999, 8));
        due("long moves come to no cell between", wall.run(1, 0, 3, 1, FAR), 1);
        CorridorCells all = drawn("###", "###");
        due("all are barred", all.run(0, 0, 2, 1, FAR), REFUSED);
    }

    private static void straightOverBridges() {
        of("Terms", "into or out of a bridged cell the heading is that of the move before (if there is one)");
        due("a turn into it", drawn("#.1.", ".###").run(0, 1, 3, 0, FAR), NONE);
        due("a turn where there is no bridge", drawn("#...", ".###").run(0, 1, 3, 0, FAR), 3);
        due("a turn out of it", drawn(".1#", "##.").run(0, 0, 2, 1, FAR), NONE);
        due("a turn where there is no bridge", drawn("..#", "##.").run(0, 0, 2, 1, FAR), 2);
        due("a turn from one to the next", drawn(".1##", "##2.").run(0, 0, 3, 1, FAR), NONE);
        due("the first move athwart", drawn(".##", "#1#", "##.").run(0, 0, 2, 2, FAR), 2);
        due("the first move athwart goes on off the grid", drawn("..#", "##1", "##.").run(1, 0, 2, 2, FAR), NONE);
        CorridorCells knight = drawn(".####", "##1##", "####.");
        yes("moves(2, 9999, 0)", knight.moves(2, 9999, 0));
        due("the first move by an odd heading", knight.run(0, 0, 4, 2, FAR), 2);
    }

    private static void bridgesOneBehindTheOther() {
        of("Terms", "counted with those bridged ones that were come to just before it, one behind the other, is at most");
        String[] rows = {".1.", ".11.", ".12.", ".21.", ".22.", ".122.", ".123.", ".321.", ".333.", ".1233.", ".3333.",
            ".1.1.", ".12.12.", ".12.21.", ".123.123."};
        boolean[] due = {true, false, true, false, true, false, true, false, true, false, false,
            true, true, false, true};
        for (int i = 0; i < rows.length; i++) {
            int last = rows[i].length() - 1;
            due("over " + rows[i], drawn(rows[i]).run(0, 0, last, 0, FAR), due[i] ? last : NONE);
            String turned = new StringBuilder(rows[i]).reverse().toString();
            due("back over " + turned, drawn(turned).run(last, 0, 0, 0, FAR), due[i] ? last : NONE);
        }
    }

    private static void ends() {
        of("Terms", "Its ends are not barred, and not the same");
        CorridorCells c = drawn(".3.#", "....");
        due("the same", c.run(0, 0, 0, 0, FAR), REFUSED);
        due("to a barred one", c.run(0, 0, 3, 0, FAR), REFUSED);
        due("from a barred one", c.run(3, 0, 0, 0, FAR), REFUSED);
        due("to a bridged one", c.run(0, 0, 1, 0, FAR), REFUSED);
        due("from a bridged one", c.run(1, 0, 0, 0, FAR), REFUSED);
        due("over a bridged one", c.run(0, 0, 2, 0, FAR), 2);
    }

    private static void cellsAgain() {
        of("Terms", "It may come to cells again");
        CorridorCells c = thereAndBack();
        due("run", c.run(2, 1, 0, 0, FAR), 6);
        dueWay("(3, 0) twice", c, 2, 1, 3, 0, 4, 0, 3, 0, 2, 0, 1, 0, 0, 0);
        yes("it keeps", c.keeps());
    }

    private static void costOfMoves() {
        of("Terms", "A move costs its length times: the cents of a bridged cell; of another one the cost, and the sum of");
        CorridorCells c = new CorridorCells(3, 1);
        for (int x = 1; x < 3; x++) {
            yes("cell(x, 0, 999, 0)", c.cell(x, 0, 999, 0));
            for (int aim = 0; aim < 4; aim++) {
                yes("aim(aim, x, 0, 999)", c.aim(aim, x, 0, 999));
                yes("weight(aim, 20, 1)", c.weight(aim, 20, 1));
            }
            for (int person = 0; person < 8; person++) {
                due("mark", c.mark(person, x, 0, 3), person + 1);
            }
        }
        long dearest = 10 * (999 + 80 * 999 + 20 * 240);
        due("run", c.run(0, 0, 2, 0, FAR), 2);
        dueCost("the dearest cells", c, 2 * dearest, 1);
        due("bound()", c.bound(), 2 * dearest);
        yes("bridge(1, 0, 1, 9999)", c.bridge(1, 0, 1, 9999));
        yes("bar(1, 0)", c.bar(1, 0));
        dueCost("cents instead", c, 99990 + dearest, 1);
        yes("bridge(1, 0, 1, 0)", c.bridge(1, 0, 1, 0));
        due("run", c.run(0, 0, 2, 0, FAR), 2);
        dueCost("a bridge for nothing", c, dearest, 1);
    }

    private static void costOfWhatIsComeTo() {
        of("Terms", "of the cell that it comes to");
        CorridorCells c = new CorridorCells(2, 1);
        yes("cell(0, 0, 999, 0)", c.cell(0, 0, 999, 0));
        yes("cell(1, 0, 1, 0)", c.cell(1, 0, 1, 0));
        due("run", c.run(0, 0, 1, 0, FAR), 1);
        dueCost("not of the first one", c, 10, 1);
        due("back", c.run(1, 0, 0, 0, FAR), 1);
        dueCost("back", c, 9990, 1);
    }

    private static void turnsOfAWay() {
        of("Terms", "A TURN of a way is a move with another heading than the one before");
        CorridorCells c = new CorridorCells(2, 2);
        due("run", c.run(0, 1, 1, 0, FAR), 1);
        due("the first move is none", c.turns(), 0);
        CorridorCells back = thereAndBack();
        due("run", back.run(2, 1, 0, 0, FAR), 6);
        due("of 2, and of 8", back.turns(), 2);
    }

    /** Straight over (1, 0) there are no turns, but 10 times 3 / 4 is more than 14 times 8 / 15 over (1, 1). */
    private static void lessCost() {
        of("Terms", "Of two ways the BETTER one has less cost");
        CorridorCells c = drawn("...", "#.#");
        yes("values", c.aim(0, 1, 0, 3) && c.aim(1, 1, 1, 1) && c.aim(2, 1, 1, 1));
        due("nothing weighs", c.run(0, 0, 2, 0, FAR), 2);
        dueWay("straight", c, 0, 0, 1, 0, 2, 0);
        yes("weights", c.weight(0, 1, 4) && c.weight(1, 1, 3) && c.weight(2, 1, 5));
        dueCost("225 thirtieths", c, 15, 2);
        due("a thirtieth less", c.run(0, 0, 2, 0, FAR), 2);
        dueWay("a thirtieth less", c, 0, 0, 1, 1, 2, 0);
        dueCost("224 thirtieths", c, 112, 15);
    }

    private static void fewerTurns() {
        of("Terms", "of those the fewer turns");
        CorridorCells c = drawn(
            ".#.",
            ".#.",
            "...");
        due("by (1, 2) athwart there are 4 moves, but 3 turns", c.run(0, 0, 2, 0, FAR), 6);
        due("two turns", c.turns(), 2);
        dueWay("round the corners", c, 0, 0, 0, 1, 0, 2, 1, 2, 2, 2, 2, 1, 2, 0);
    }

    /** The way straight up first has one turn too, and begins at a lesser cell, but it has five moves. */
    private static void fewerMoves() {
        of("Terms", "of those the fewer moves");
        CorridorCells c = new CorridorCells(4, 4);
        due("run", c.run(0, 2, 3, 3, FAR), 3);
        due("one turn", c.turns(), 1);
        dueWay("three moves", c, 0, 2, 1, 1, 2, 2, 3, 3);
    }

    private static void lesserCell() {
        of("Terms", "of those the lesser number of the cell where they differ first");
        CorridorCells c = new CorridorCells(4, 2);
        due("forth", c.run(0, 0, 3, 1, FAR), 3);
        dueWay("forth", c, 0, 0, 1, 0, 2, 0, 3, 1);
        due("back", c.run(3, 1, 0, 0, FAR), 3);
        dueWay("back", c, 3, 1, 2, 0, 1, 0, 0, 0);
    }

    /** So many labels are just enough for a way of so many moves; one less is not. */
    private static void dueLabels(String what, CorridorCells c, int[] ends, int labels, int moves) {
        due(what + ": one too few", c.run(ends[0], ends[1], ends[2], ends[3], labels - 1), SPENT);
        due(what + ": just enough", c.run(ends[0], ends[1], ends[2], ends[3], labels), moves);
    }

    private static void labelsByHeadings() {
        of("Terms", "a heading of REACH by which it was come to (for the first cell also 16, none)");
        CorridorCells two = new CorridorCells(2, 1);
        dueLabels("8 of the end, 2 of the first cell", two, new int[] {0, 0, 1, 0}, 10, 1);
        yes("moves(2, 9999, 8)", two.moves(2, 9999, 8));
        dueLabels("16 of the end, 2 of the first cell", two, new int[] {0, 0, 1, 0}, 18, 1);
        CorridorCells three = new CorridorCells(3, 1);
        dueLabels("but one of the cell between", three, new int[] {0, 0, 2, 0}, 11, 2);
    }

    private static void labelsOfBridges() {
        of("Terms", "a number R, for a bridged cell 1 .. its MOST, for others 0");
        for (int most = 1; most <= 3; most++) {
            CorridorCells c = drawn("." + most + ".");
            dueLabels("a most of " + most, c, new int[] {0, 0, 2, 0}, 8 + most + 2, 2);
            dueLabels("and back", c, new int[] {2, 0, 0, 0}, 8 + most + 2, 2);
        }
        // of the second bridge all R up to 3, before it those that are one less, 1 and 2
        dueLabels("two bridges", drawn(".33."), new int[] {0, 0, 3, 0}, 8 + 3 + 2 + 2, 3);
        dueLabels("a lesser first one", drawn(".13."), new int[] {0, 0, 3, 0}, 8 + 3 + 1 + 2, 3);
        dueLabels("a lesser second one", drawn(".32."), new int[] {0, 0, 3, 0}, 8 + 2 + 1 + 2, 3);
    }

    private static void labelsBehindBridges() {
        of("Terms", "(a move into a bridged cell makes R one more, another one makes it 0)");
        // 8 of the end, of each bridge R 1 and 2, but before it only a label that has none, 2 of the first cell
        dueLabels("R begins anew", drawn(".2.2."), new int[] {0, 0, 4, 0}, 8 + 2 + 1 + 2 + 2, 4);
        dueLabels("R goes on", drawn(".22."), new int[] {0, 0, 3, 0}, 8 + 2 + 1 + 2, 3);
    }

    private static void labelsWithAnEnd() {
        of("Terms", "such that the end can be come to from there by moves as ways have them");
        CorridorCells c = drawn(".#..");
        dueLabels("8 of the end, 8 beside it, none of others", c, new int[] {0, 0, 3, 0}, 16, NONE);
        CorridorCells bridge = drawn(".12.");
        dueLabels("no label from which a most is passed", bridge, new int[] {3, 0, 0, 0}, 8 + 1, NONE);
        CorridorCells steep = new CorridorCells(3, 1);
        yes("steep", steep.cell(1, 0, 0, 7) && steep.moves(1, 6, 8));
        dueLabels("none over a slope", steep, new int[] {0, 0, 2, 0}, 8, NONE);
    }

    private static void labelsOfSharedCells() {
        of("Terms", "still to come (behind it, the end does not count; 0 in run(), 0 .. m in unlike())");
        CorridorCells c = new CorridorCells(3, 1);
        due("11 labels", c.run(0, 0, 2, 0, 11), 2);
        due("of those of one shared cell too", c.unlike(1, 1), 2);
        due("without one there are 8 more of the cell between", c.unlike(0, 1), SPENT);
        due("15 labels", c.run(0, 0, 2, 0, 15), 2);
        due("15 of 16", c.unlike(0, 1), SPENT);
        due("16 labels", c.run(0, 0, 2, 0, 16), 2);
        due("16 of 16", c.unlike(0, 1), NONE);
        for (int labels = 17; labels <= 18; labels++) {
            yes("cell(1, 0, 0, 0)", c.cell(1, 0, 0, 0));
            due("run", c.run(0, 0, 2, 0, labels), 2);
            yes("cell(1, 0, 1, 0)", c.cell(1, 0, 1, 0));
            due("8 of the end, 8 between, 2 of the first cell", c.unlike(1, 1), labels < 18 ? SPENT : 2);
        }
    }

    private static void bestOfALabel() {
        of("Terms", "What is best of this (cost, turns, moves) is what the label has");
        CorridorCells c = new CorridorCells(2, 2);
        yes("cell(1, 0, 3, 0)", c.cell(1, 0, 3, 0));
        yes("cell(0, 1, 2, 0)", c.cell(0, 1, 2, 0));
        yes("cell(1, 1, 9, 0)", c.cell(1, 1, 9, 0));
        due("straight down", c.run(0, 0, 1, 1, FAR), 2);
        dueCost("20 and 90, not 126 nor 120", c, 110, 1);
        due("bound()", c.bound(), 110);
    }

    private static void closedByCostAndTurns() {
        of("Terms", "Labels are CLOSED in this order: less cost, fewer turns");
        CorridorCells c = new CorridorCells(3, 1);
        int[] ends = {0, 0, 2, 0};
        yes("cell(2, 0, 5, 0)", c.cell(2, 0, 5, 0));
        dueLabels("as dear as the cell between, but fewer turns than 7 of its labels", c, ends, 11, 2);
        yes("cell(1, 0, 1, 0)", c.cell(1, 0, 1, 0));
        dueLabels("dearer than the cell between", c, ends, 8 + 8 + 2, 2);
        long[] bounds = {0, 0, 0, 0, 0, 0, 0, 0, 50, 50, 50, 50, 50, 50, 50, 50, 60};
        for (int i = 0; i < bounds.length; i++) {
            due("run", c.run(0, 0, 2, 0, i + 1), SPENT);
            due("bound() of " + (i + 1) + " labels", c.bound(), bounds[i]);
        }
    }

    private static void closedByMovesAndCode() {
        of("Terms", "fewer moves, the lesser of 612 cell + 36 heading + 9 R + S");
        CorridorCells row = new CorridorCells(4, 1);
        dueLabels("cell 0 is lesser, but has one move more", row, new int[] {3, 0, 2, 0}, 8 + 1 + 2, 1);
        CorridorCells square = new CorridorCells(3, 3);
        for (int cell = 0; cell < 9; cell++) {
            // one straight label of each lesser cell goes before, then that with a heading
            int lesser = cell < 4 ? cell : cell - 1;
            if (cell != 4) {
                dueLabels("cell " + cell, square, new int[] {cell % 3, cell / 3, 1, 1}, 8 + lesser + 2, 1);
            }
        }
    }

    private static void closedUpToTheFirst() {
        of("Terms", "up to one of the first cell with heading 16");
        CorridorCells c = new CorridorCells(12, 12);
        yes("cell(11, 0, 4, 0)", c.cell(11, 0, 4, 0));
        due("run", c.run(10, 0, 11, 0, FAR), 1);
        due("the last one is that of the way", c.bound(), 40);
        dueLabels("no more than that", c, new int[] {10, 0, 11, 0}, 10, 1);
    }
}
