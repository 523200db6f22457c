import java.math.BigInteger;
import java.util.ArrayList;
import java.util.List;
import java.util.Random;
import java.util.Set;

/** On tiny grids all ways of few moves are written down, and the best one is compared with the one that was found. */
public final class AllWaysTest {
    private static final int LONGEST = 7;

    private final PlainCells plain;
    private final Set<Integer> shared;
    private final int sharedMost;
    private final int last;
    private final BigInteger[] units;
    private final List<Integer> cells = new ArrayList<>();
    private final List<Integer> headings = new ArrayList<>();
    private List<Integer> bestCells = null;
    private long[] best = null;

    private AllWaysTest(PlainCells plain, Set<Integer> shared, int sharedMost, int last) {
        this.plain = plain;
        this.shared = shared;
        this.sharedMost = sharedMost;
        this.last = last;
        units = plain.units();
    }

    public static void main(String[] args) {
        int seeds = args.length > 0 ? Integer.parseInt(args[0]) : 3000;
        for (int seed = 0; seed < seeds && !Check.hasWrong(); seed++) {
            compare(seed);
        }
        Check.end();
    }

    private static void compare(int seed) {
        Random random = new Random(seed);
        int w = 2 + random.nextInt(4);
        int h = w > 3 ? 1 + random.nextInt(3) : 3 + random.nextInt(2);
        CorridorCells c = new CorridorCells(w, h);
        PlainCells plain = new PlainCells(w, h);
        tell(random, c, plain);
        // ends far apart, so that most ways have some moves
        int first = random.nextInt(w);
        int last = w * h - 1 - random.nextInt(2);
        if (first == last || plain.barred[first] || plain.barred[last]) {
            return;
        }
        int answer = c.run(first % w, first / w, last % w, last / w, 100000);
        new AllWaysTest(plain, Set.of(), 0, last).look("seed " + seed + " run", first, c, answer);
        for (int i = 0; i < 3 && answer > 0; i++) {
            // the ways that were found are told to the model, which need not find them
            plain.found.add(atHand(c, w, answer));
            int below = 1 + random.nextInt(4);
            int above = random.nextInt(below + 1);
            int most = plain.sharedMost(above, below);
            AllWaysTest ways = new AllWaysTest(plain, plain.shared(), most, last);
            answer = c.unlike(above, below);
            ways.look("seed " + seed + " unlike(" + above + ", " + below + ")", first, c, answer);
        }
    }

    private static void tell(Random random, CorridorCells c, PlainCells plain) {
        int costs = 1 + random.nextInt(3);
        for (int i = 0; i < plain.w * plain.h; i++) {
            int x = i % plain.w;
            int y = i / plain.w;
            int cost = random.nextInt(costs);
            int level = random.nextInt(3);
            Check.due("cell", c.cell(x, y, cost, level), plain.cell(x, y, cost, level));
            int most = 1 + random.nextInt(3);
            if (random.nextInt(4) == 0) {
                Check.due("bar", c.bar(x, y), plain.bar(x, y));
                Check.due("bridge", c.bridge(x, y, most, cost), plain.bridge(x, y, most, cost));
            }
            Check.due("aim", c.aim(1, x, y, level), plain.aim(1, x, y, level));
        }
        Check.due("weight", c.weight(1, costs - 1, 3), plain.weight(1, costs - 1, 3));
        int reach = 1 + random.nextInt(2);
        int slope = 1 + random.nextInt(3);
        int turn = random.nextInt(9);
        Check.due("moves", c.moves(reach, slope, turn), plain.moves(reach, slope, turn));
    }

    private static PlainCells.Way atHand(CorridorCells c, int w, int moves) {
        List<Integer> cells = new ArrayList<>();
        List<Integer> headings = new ArrayList<>();
        for (int k = 0; k <= moves; k++) {
            cells.add(c.at(k, 1) * w + c.at(k, 0));
            headings.add(c.at(k, 2));
        }
        return new PlainCells.Way(cells, headings);
    }

    /** A best way of more moves than are looked at must only be better than all shorter ones. */
    private void look(String what, int first, CorridorCells c, int answer) {
        cells.add(first);
        headings.add(16);
        extend(0, 0, 0, 0);
        if (answer < 0) {
            Check.due(what + " has no way of few moves", best == null, true);
            return;
        }
        PlainCells.Way way = atHand(c, plain.w, answer);
        Check.due(what + " is a way", plain.kept(way), true);
        long[] found = {plain.wayCost(way, -1).longValueExact(), PlainCells.turnsOf(way), answer, sharedIn(way)};
        Check.due(what + " shares no more than it may", found[3] <= sharedMost, true);
        if (answer > LONGEST) {
            Check.due(what + " is the best", best == null || isBetter(found, way.cells()), true);
            return;
        }
        Check.due(what + " is found by writing all down", best != null, true);
        Check.due(what + " has the cells of the best", way.cells().equals(bestCells), true);
    }

    private long sharedIn(PlainCells.Way way) {
        return way.cells().stream().filter(shared::contains).count();
    }

    private void extend(long cost, int turns, int bridged, int sharedCount) {
        int here = cells.get(cells.size() - 1);
        if (here == last) {
            long[] measures = {cost, turns, cells.size() - 1, sharedCount};
            if (best == null || isBetter(measures, cells)) {
                best = measures;
                bestCells = new ArrayList<>(cells);
            }
        }
        if (cells.size() > LONGEST || best != null && cost > best[0]) {
            return;
        }
        int before = headings.get(headings.size() - 1);
        for (int heading = 0; heading < 16; heading++) {
            int to = plain.target(here, heading);
            if (to < 0 || !plain.allowed(here, before, heading, to)) {
                continue;
            }
            int row = plain.bridged(to) ? bridged + 1 : 0;
            int shares = sharedCount + (shared.contains(to) ? 1 : 0);
            if (row > 0 && row > plain.most[to] || shares > sharedMost) {
                continue;
            }
            cells.add(to);
            headings.add(heading);
            long price = units[to].longValueExact() * PlainCells.length(heading);
            extend(cost + price, turns + (before != 16 && before != heading ? 1 : 0), row, shares);
            cells.remove(cells.size() - 1);
            headings.remove(headings.size() - 1);
        }
    }

    private boolean isBetter(long[] measures, List<Integer> places) {
        for (int i = 0; i < measures.length; i++) {
            if (measures[i] != best[i]) {
                return measures[i] < best[i];
            }
        }
        for (int k = 0; k < places.size(); k++) {
            if (!places.get(k).equals(bestCells.get(k))) {
                return places.get(k) < bestCells.get(k);
            }
        }
        return false;
    }
}
