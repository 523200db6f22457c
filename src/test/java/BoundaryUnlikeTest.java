/** Boundary cases of unlike() (promise 12): a test for each sentence, and for each part of a long one. */
public final class BoundaryUnlikeTest extends Check {
    public static void main(String[] args) {
        betweenTheSameEnds();
        atMostSoMany();
        eachTimeCounts();
        movesLessOne();
        movesOfTheFirstWay();
        cutOff();
        fractions();
        eightAtMost();
        cellsOfAnyWay();
        bothEndsAreNotShared();
        nodesOfTheLastRun();
        answersAsOfRun();
        atHandAndFound();
        withoutOneItStays();
        fewestShared();
        noSuchFraction();
        noWayIsFound();
        sixAreFound();
        anEndIsBarred();
        end();
    }

    private static void betweenTheSameEnds() {
        of("Promise 12", "A further way between the ends of the first way found");
        CorridorCells c = new CorridorCells(4, 3);
        due("run", c.run(3, 2, 0, 1, FAR), 3);
        for (int i = 0; i < 5; i++) {
            int moves = c.unlike(1, 1);
            due("from its first cell", c.at(0, 0) * 10 + c.at(0, 1), 32);
            due("to its last cell", c.at(moves, 0) * 10 + c.at(moves, 1), 1);
            due("and no farther", c.at(moves + 1, 0), BAD);
        }
    }

    /** From (0, 0) to the end of the row; of the three cells between, two can't be gone round. */
    private static CorridorCells twoGates() {
        return drawn(
            ".....",
            ".#.#.");
    }

    private static void atMostSoMany() {
        of("Promise 12", "the best one of those that have at most m SHARED cells");
        CorridorCells c = twoGates();
        due("run", c.run(0, 0, 4, 0, FAR), 4);
        dueWay("straight", c, 0, 0, 1, 0, 2, 0, 3, 0, 4, 0);
        due("one of three", c.unlike(1, 3), NONE);
        due("two of three", c.unlike(2, 3), 4);
        dueWay("the gates are shared", c, 0, 0, 1, 0, 2, 1, 3, 0, 4, 0);
        due("all are shared now", c.unlike(2, 3), NONE);
        due("three of three", c.unlike(3, 3), 4);
        dueWay("straight again", c, 0, 0, 1, 0, 2, 0, 3, 0, 4, 0);
    }

    private static void eachTimeCounts() {
        of("Promise 12", "(each time they are come to counts)");
        CorridorCells c = thereAndBack();
        due("four cells between, one of them twice", c.run(2, 1, 0, 0, FAR), 6);
        due("four of five", c.unlike(4, 5), NONE);
        due("99 / 100 of five", c.unlike(99, 100), NONE);
        due("five of five", c.unlike(1, 1), 6);
    }

    private static void movesLessOne() {
        of("Promise 12", "with m the moves less one of that first way");
        CorridorCells two = new CorridorCells(2, 1);
        due("one move", two.run(0, 0, 1, 0, FAR), 1);
        due("none of none", two.unlike(1, 1), 1);
        due("none of none", two.unlike(0, 1), 1);
        CorridorCells three = new CorridorCells(3, 1);
        due("two moves", three.run(0, 0, 2, 0, FAR), 2);
        due("99 / 100 of one", three.unlike(99, 100), NONE);
        due("one of one", three.unlike(1, 1), 2);
    }

    /** The third way has six moves; if these counted, it could be had again. */
    private static void movesOfTheFirstWay() {
        of("Promise 12", "with m the moves less one of that first way");
        CorridorCells c = new CorridorCells(3, 3);
        due("run", c.run(0, 0, 2, 0, FAR), 2);
        due("the second", c.unlike(0, 1), 2);
        due("the third", c.unlike(0, 1), 6);
        yes("only the third is left", c.bar(1, 0) && c.bar(1, 1));
        due("one of its five", c.unlike(1, 1), NONE);
    }

    /** For each number m from 0 to 3 a grid where the next way shares just so many of the three cells between. */
    private static void cutOff() {
        of("Promise 12", "times above by below, cut off");
        String[] below = {".....", "..#..", ".#.#.", "#####"};
        long[][] fractions = {{0, 1}, {0, 100}, {1, 100}, {33, 100}, {1, 3}, {34, 100}, {66, 100}, {2, 3}, {67, 100},
            {98, 99}, {99, 100}, {1, 1}, {100, 100}};
        int[] most = {0, 0, 0, 0, 1, 1, 1, 2, 2, 2, 2, 3, 3};
        for (int needed = 0; needed < 4; needed++) {
            for (int i = 0; i < fractions.length; i++) {
                CorridorCells c = drawn(".....", below[needed]);
                due("run", c.run(0, 0, 4, 0, FAR), 4);
                int due = most[i] < needed ? NONE : 4;
                due("needed " + needed + ", unlike(" + fractions[i][0] + ", " + fractions[i][1] + ")",
                    c.unlike(fractions[i][0], fractions[i][1]), due);
            }
        }
    }

    private static void fractions() {
        of("Promise 12", "(0 <= above <= below <= 100, below not 0;");
        for (long below = -1; below <= 101; below++) {
            CorridorCells c = new CorridorCells(3, 1);
            due("run", c.run(0, 0, 2, 0, FAR), 2);
            boolean isBelow = below >= 1 && below <= 100;
            due("unlike(-1, " + below + ")", c.unlike(-1, below), REFUSED);
            due("unlike(0, " + below + ")", c.unlike(0, below), isBelow ? NONE : REFUSED);
            due("unlike(" + below + ", " + below + ")", c.unlike(below, below), isBelow ? 2 : REFUSED);
            due("unlike(" + below + " + 1, " + below + ")", c.unlike(below + 1, below), REFUSED);
        }
    }

    private static void eightAtMost() {
        of("Promise 12", "8 at most counts");
        int[] widths = {8, 9, 10, 11, 12};
        for (int width : widths) {
            CorridorCells c = new CorridorCells(width, 1);
            due("a row of " + width, c.run(0, 0, width - 1, 0, FAR), width - 1);
            due("all its cells between", c.unlike(1, 1), width <= 10 ? width - 1 : NONE);
        }
        CorridorCells nine = drawn("............", "##.#########");
        due("run", nine.run(0, 0, 11, 0, FAR), 11);
        due("nine are shared", nine.unlike(1, 1), NONE);
        CorridorCells eight = drawn("............", "##.##.######");
        due("run", eight.run(0, 0, 11, 0, FAR), 11);
        due("79 / 100 of ten", eight.unlike(79, 100), NONE);
        due("80 / 100 of ten", eight.unlike(80, 100), 11);
        due("by one side", eight.at(2, 1) + eight.at(5, 1), 2);
    }

    private static void cellsOfAnyWay() {
        of("Promise 12", "Shared are cells that any way found comes to");
        CorridorCells c = new CorridorCells(3, 3);
        due("run", c.run(0, 0, 2, 0, FAR), 2);
        due("not the first", c.unlike(0, 1), 2);
        dueWay("not the first", c, 0, 0, 1, 1, 2, 0);
        due("neither the first nor the second", c.unlike(0, 1), 6);
        dueWay("neither the first nor the second", c, 0, 0, 0, 1, 0, 2, 1, 2, 2, 2, 2, 1, 2, 0);
        due("none of the three", c.unlike(0, 1), NONE);
        due("a new run", c.run(0, 0, 2, 0, FAR), 2);
        due("shares only its own", c.unlike(0, 1), 2);
    }

    private static void bothEndsAreNotShared() {
        of("Promise 12", "but for both ends");
        CorridorCells c = new CorridorCells(2, 2);
        due("run", c.run(0, 0, 1, 1, FAR), 1);
        for (int i = 1; i < 6; i++) {
            due("ends alone", c.unlike(0, 1), 1);
        }
        due("6 are", c.unlike(0, 1), REFUSED);
    }

    private static void nodesOfTheLastRun() {
        of("Promise 12", "Answers, and nodes, as of the last run()");
        CorridorCells c = new CorridorCells(3, 2);
        // of the end 8, beside it 3 straight and 21 with a turn, 2 of the first cell
        due("33 labels", c.run(0, 0, 2, 0, 33), 2);
        due("33 of 34", c.unlike(0, 1), SPENT);
        due("34 labels", c.run(0, 0, 2, 0, 34), 2);
        due("34 of 34", c.unlike(0, 1), 2);
        due("13 labels", c.run(0, 0, 2, 0, 13), 2);
        due("refused", c.run(0, 0, 2, 0, 100001), REFUSED);
        due("refused", c.run(0, 0, 3, 0, 100000), REFUSED);
        due("13 of 34", c.unlike(0, 1), SPENT);
    }

    private static void answersAsOfRun() {
        of("Promise 12", "Answers, and nodes, as of the last run()");
        CorridorCells c = new CorridorCells(3, 1);
        due("16 labels", c.run(0, 0, 2, 0, 16), 2);
        due("there is none", c.unlike(0, 1), NONE);
        yes("that is known", c.proved());
        due("its moves", c.unlike(1, 1), 2);
        yes("that is known", c.proved());
        due("15 labels", c.run(0, 0, 2, 0, 15), 2);
        due("spent", c.unlike(0, 1), SPENT);
        no("that is not known", c.proved());
    }

    private static void atHandAndFound() {
        of("Promise 12", "a way is at hand then, and found");
        CorridorCells c = drawn("...", ".#.", "...");
        due("run", c.run(0, 1, 2, 1, FAR), 2);
        dueWay("above", c, 0, 1, 1, 0, 2, 1);
        due("unlike", c.unlike(0, 1), 2);
        dueWay("it is at hand", c, 0, 1, 1, 2, 2, 1);
        due("it is found, so its cell is shared", c.unlike(0, 1), NONE);
        yes("cell(1, 2, 1, 0)", c.cell(1, 2, 1, 0));
        dueSpan("against the first one", c, 0, -1, 1, -1, 1);
        due("the first one again", c.unlike(1, 1), 2);
        dueWay("it is at hand again", c, 0, 1, 1, 0, 2, 1);
        yes("cell(1, 0, 2, 0)", c.cell(1, 0, 2, 0));
        dueSpan("against the second one", c, 0, -1, 1, -1, 1);
    }

    private static void withoutOneItStays() {
        of("Promise 12", "without one the way at hand stays");
        CorridorCells c = new CorridorCells(3, 1);
        due("11 labels", c.run(0, 0, 2, 0, 11), 2);
        due("spent", c.unlike(0, 1), SPENT);
        dueWay("after spent", c, 0, 0, 1, 0, 2, 0);
        yes("it keeps", c.keeps());
        due("the far run", c.run(0, 0, 2, 0, FAR), 2);
        for (int i = 0; i < 6; i++) {
            due("none", c.unlike(0, 1), NONE);
            dueWay("after none", c, 0, 0, 1, 0, 2, 0);
        }
        for (int i = 1; i < 6; i++) {
            due("no more were found", c.unlike(1, 1), 2);
        }
        due("now 6 are", c.unlike(1, 1), REFUSED);
    }

    private static void fewestShared() {
        of("Promise 12", "Of ways as good as each other but for their cells the one with the fewest shared ones is the best");
        CorridorCells c = new CorridorCells(4, 2);
        due("run", c.run(0, 0, 3, 1, FAR), 3);
        dueWay("the lesser cells", c, 0, 0, 1, 0, 2, 0, 3, 1);
        due("two may be shared", c.unlike(1, 1), 3);
        dueWay("none is", c, 0, 0, 1, 1, 2, 1, 3, 1);
        due("two may be shared", c.unlike(1, 1), 3);
        dueWay("each shares two, so the lesser cells", c, 0, 0, 1, 0, 2, 0, 3, 1);
        CorridorCells dear = new CorridorCells(4, 2);
        due("run", dear.run(0, 0, 3, 1, FAR), 3);
        yes("cell(1, 1, 1, 0)", dear.cell(1, 1, 1, 0));
        due("less cost goes before fewer shared", dear.unlike(1, 1), 3);
        dueWay("less cost", dear, 0, 0, 1, 0, 2, 0, 3, 1);
        CorridorCells straight = new CorridorCells(3, 2);
        due("run", straight.run(0, 0, 2, 0, FAR), 2);
        due("fewer turns go before fewer shared", straight.unlike(1, 1), 2);
        due("fewer turns", straight.turns(), 0);
    }

    private static void noSuchFraction() {
        of("Promise 12", "- 3: no such fraction");
        CorridorCells c = new CorridorCells(3, 1);
        due("run", c.run(0, 0, 2, 0, FAR), 2);
        long big = 1L << 32;
        long[][] wrong = {{-1, 1}, {0, 0}, {1, 0}, {0, -1}, {-1, -1}, {-2, -1}, {2, 1}, {101, 100}, {0, 101}, {101, 101},
            {big, big}, {big, 1}, {0, big + 1}, {1, big + 1}, {big + 1, 1}, {Long.MIN_VALUE, 1}, {0, Long.MIN_VALUE},
            {Long.MIN_VALUE, Long.MIN_VALUE}, {Long.MAX_VALUE, Long.MAX_VALUE}, {0, Long.MAX_VALUE}};
        for (long[] told : wrong) {
            due("unlike(" + told[0] + ", " + told[1] + ")", c.unlike(told[0], told[1]), REFUSED);
        }
        yes("proved() is as before", c.proved());
        dueWay("the way at hand is as before", c, 0, 0, 1, 0, 2, 0);
    }

    private static void noWayIsFound() {
        of("Promise 12", "no way is found");
        CorridorCells c = drawn("..#.");
        due("at first", c.unlike(1, 1), REFUSED);
        due("run", c.run(0, 0, 1, 0, FAR), 1);
        due("none", c.run(0, 0, 3, 0, FAR), NONE);
        due("after none", c.unlike(1, 1), REFUSED);
        due("run", c.run(0, 0, 1, 0, FAR), 1);
        due("spent", c.run(0, 0, 1, 0, 1), SPENT);
        due("after spent", c.unlike(1, 1), REFUSED);
        no("proved() is that of the run", c.proved());
    }

    private static void sixAreFound() {
        of("Promise 12", "6 are");
        CorridorCells c = new CorridorCells(12, 12);
        due("the first", c.run(0, 0, 11, 11, FAR), 11);
        for (int i = 2; i <= 6; i++) {
            due("way " + i, c.unlike(1, 1) > 0, true);
        }
        long bound = c.bound();
        int heading = c.at(1, 2);
        for (int i = 0; i < 3; i++) {
            due("6 are", c.unlike(1, 1), REFUSED);
            due("6 are", c.unlike(0, 1), REFUSED);
        }
        due("bound() is as before", c.bound(), bound);
        due("the way at hand is as before", c.at(1, 2), heading);
    }

    private static void anEndIsBarred() {
        of("Promise 12", "or one of the ends is barred by now");
        for (int x = 0; x <= 2; x += 2) {
            CorridorCells c = new CorridorCells(3, 2);
            due("run", c.run(0, 0, 2, 0, FAR), 2);
            yes("a bridge alone", c.bridge(x, 0, 3, 0));
            due("is no bar", c.unlike(0, 1), 2);
            yes("bar(" + x + ", 0)", c.bar(x, 0));
            due("a bridge is no help", c.unlike(0, 1), REFUSED);
            due("nor are shared cells", c.unlike(1, 1), REFUSED);
            dueWay("the way at hand stays", c, 0, 0, 1, 1, 2, 0);
            yes("proved() stays", c.proved());
        }
        CorridorCells c = new CorridorCells(3, 2);
        due("run", c.run(0, 0, 2, 0, FAR), 2);
        yes("another cell", c.bar(1, 0));
        due("is no end", c.unlike(0, 1), 2);
    }
}
