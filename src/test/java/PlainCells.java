import java.math.BigInteger;
import java.util.ArrayList;
import java.util.Comparator;
import java.util.HashMap;
import java.util.HashSet;
import java.util.List;
import java.util.Map;
import java.util.Set;

/**
 * The document once more, slow and plain, to be compared with CorridorCells: all labels are valued by sweeps over the
 * definition and then sorted, weights are fractions of big numbers.
 */
final class PlainCells {
    static final int[][] HEADINGS = {
        {1, 0}, {2, 1}, {1, 1}, {1, 2}, {0, 1}, {-1, 2}, {-1, 1}, {-2, 1},
        {-1, 0}, {-2, -1}, {-1, -1}, {-1, -2}, {0, -1}, {1, -2}, {1, -1}, {2, -1}};

    record Label(int cell, int heading, int bridged, int toCome) {
        int code() {
            return 612 * cell + 36 * heading + 9 * bridged + toCome;
        }
    }

    record Value(BigInteger cost, int turns, int moves) implements Comparable<Value> {
        public int compareTo(Value other) {
            int byCost = cost.compareTo(other.cost);
            int byTurns = byCost != 0 ? byCost : Integer.compare(turns, other.turns);
            return byTurns != 0 ? byTurns : Integer.compare(moves, other.moves);
        }
    }

    record Way(List<Integer> cells, List<Integer> headings) { }

    final int w;
    final int h;
    final int[] cost;
    final int[] level;
    final boolean[] barred;
    final int[] most;
    final long[] cents;
    final long[][] value;
    final int[][] kind;
    final int[] zone;
    final long[] above = {0, 0, 0, 0};
    final long[] below = {1, 1, 1, 1};
    int reach = 1;
    int slope = 9999;
    int turn = 8;
    final List<Way> found = new ArrayList<>();
    long nodes;
    long lastBound = -1;
    boolean lastProved = false;
    /** How many labels the last search would close without a limit. */
    int labelsClosed;

    PlainCells(int width, int height) {
        w = width < 1 ? 1 : width > 12 ? 12 : width;
        h = height < 1 ? 1 : height > 12 ? 12 : height;
        cost = new int[w * h];
        level = new int[w * h];
        barred = new boolean[w * h];
        most = new int[w * h];
        cents = new long[w * h];
        value = new long[4][w * h];
        kind = new int[8][w * h];
        zone = new int[w * h];
    }

    boolean inside(int x, int y) {
        return x >= 0 && y >= 0 && x < w && y < h;
    }

    boolean cell(int x, int y, int c, int l) {
        if (!inside(x, y) || c < 0 || c > 999 || l < 0 || l > 9999) {
            return false;
        }
        cost[y * w + x] = c;
        level[y * w + x] = l;
        return true;
    }

    boolean bar(int x, int y) {
        if (!inside(x, y) || barred[y * w + x]) {
            return false;
        }
        barred[y * w + x] = true;
        return true;
    }

    boolean moves(int r, int s, int t) {
        if (r != 1 && r != 2 || s < 0 || s > 9999 || t < 0 || t > 8) {
            return false;
        }
        reach = r;
        slope = s;
        turn = t;
        return true;
    }

    boolean aim(int a, int x, int y, long v) {
        if (a < 0 || a > 3 || !inside(x, y) || v < 0 || v > 999) {
            return false;
        }
        value[a][y * w + x] = v;
        return true;
    }

    boolean weight(int a, long up, long low) {
        if (a < 0 || a > 3 || up < 0 || up > 20 || low < 1 || low > 6) {
            return false;
        }
        above[a] = up;
        below[a] = low;
        return true;
    }

    boolean bridge(int x, int y, int m, long c) {
        if (!inside(x, y) || m < 1 || m > 3 || c < 0 || c > 9999) {
            return false;
        }
        most[y * w + x] = m;
        cents[y * w + x] = c;
        return true;
    }

    int mark(int person, int x, int y, int k) {
        if (person < 0 || person > 7 || !inside(x, y) || k < 0 || k > 3) {
            return -1;
        }
        kind[person][y * w + x] = k;
        int count = 0;
        for (int p = 0; p < 8; p++) {
            count += kind[p][y * w + x] > 0 ? 1 : 0;
        }
        return count;
    }

    int zone(int z, int x, int y) {
        if (z < 0 || z > 7 || !inside(x, y)) {
            return -1;
        }
        int was = zone[y * w + x];
        zone[y * w + x] = z;
        return was;
    }

    boolean bridged(int c) {
        return barred[c] && most[c] > 0;
    }

    static int length(int heading) {
        return heading % 2 == 1 ? 22 : heading % 4 == 0 ? 10 : 14;
    }

    static int differ(int a, int b) {
        int d = Math.floorMod(a - b, 16);
        return d > 8 ? 16 - d : d;
    }

    BigInteger denominator() {
        return BigInteger.valueOf(below[0] * below[1] * below[2] * below[3]);
    }

    long told(int a, int c) {
        long v = value[a][c];
        for (int p = 0; p < 8 && a == 3; p++) {
            v += 10L * kind[p][c];
        }
        return v;
    }

    /** Times denominator(); without one aim, if it is not -1. */
    BigInteger unit(int c, int without) {
        BigInteger all = denominator();
        if (bridged(c)) {
            return all.multiply(BigInteger.valueOf(cents[c]));
        }
        BigInteger sum = all.multiply(BigInteger.valueOf(cost[c]));
        for (int a = 0; a < 4; a++) {
            if (a != without) {
                sum = sum.add(all.divide(BigInteger.valueOf(below[a])).multiply(BigInteger.valueOf(above[a] * told(a, c))));
            }
        }
        return sum;
    }

    BigInteger wayCost(Way way, int without) {
        BigInteger sum = BigInteger.ZERO;
        for (int k = 1; k < way.cells.size(); k++) {
            BigInteger unit = unit(way.cells.get(k), without);
            sum = sum.add(unit.multiply(BigInteger.valueOf(length(way.headings.get(k)))));
        }
        return sum;
    }

    /** Whether a move may follow, but for the count of bridged cells. */
    boolean allowed(int from, int before, int heading, int to) {
        if (reach == 1 && heading % 2 == 1 || Math.abs(level[from] - level[to]) > slope) {
            return false;
        }
        if (barred[to] && !bridged(to)) {
            return false;
        }
        if (before == 16) {
            return true;
        }
        if ((bridged(from) || bridged(to)) && before != heading) {
            return false;
        }
        return differ(before, heading) <= turn;
    }

    int target(int from, int heading) {
        int x = from % w + HEADINGS[heading][0];
        int y = from / w + HEADINGS[heading][1];
        return inside(x, y) ? y * w + x : -1;
    }

    static int turnsOf(Way way) {
        int count = 0;
        for (int k = 2; k < way.cells.size(); k++) {
            count += way.headings.get(k).equals(way.headings.get(k - 1)) ? 0 : 1;
        }
        return count;
    }

    boolean kept(Way way) {
        int n = way.cells.size();
        if (barred[way.cells.get(0)] || barred[way.cells.get(n - 1)]) {
            return false;
        }
        int row = 0;
        for (int k = 1; k < n; k++) {
            int to = way.cells.get(k);
            if (!allowed(way.cells.get(k - 1), way.headings.get(k - 1), way.headings.get(k), to)) {
                return false;
            }
            row = bridged(to) ? row + 1 : 0;
            if (row > 0 && row > most[to]) {
                return false;
            }
        }
        return true;
    }

    List<Label> labels(int first, int m) {
        List<Label> all = new ArrayList<>();
        for (int c = 0; c < w * h; c++) {
            for (int heading = 0; heading <= 16; heading++) {
                boolean hasHeading = heading == 16 ? c == first : reach == 2 || heading % 2 == 0;
                int least = bridged(c) ? 1 : 0;
                int greatest = bridged(c) ? most[c] : barred[c] ? -1 : 0;
                for (int r = least; hasHeading && r <= greatest; r++) {
                    for (int s = 0; s <= m; s++) {
                        all.add(new Label(c, heading, r, s));
                    }
                }
            }
        }
        return all;
    }

    /** The label behind a move, or null. */
    Label next(Label label, int heading, Set<Integer> shared) {
        int to = target(label.cell, heading);
        if (to < 0 || !allowed(label.cell, label.heading, heading, to)) {
            return null;
        }
        int row = bridged(to) ? label.bridged + 1 : 0;
        int toCome = shared.contains(to) ? label.toCome - 1 : label.toCome;
        return row > 0 && row > most[to] || toCome < 0 ? null : new Label(to, heading, row, toCome);
    }

    Value along(Label label, Label next, Value rest, BigInteger[] units) {
        int turns = label.heading != 16 && label.heading != next.heading ? 1 : 0;
        BigInteger price = units[next.cell].multiply(BigInteger.valueOf(length(next.heading)));
        return new Value(rest.cost.add(price), rest.turns + turns, rest.moves + 1);
    }

    BigInteger[] units() {
        BigInteger[] units = new BigInteger[w * h];
        for (int c = 0; c < w * h; c++) {
            units[c] = unit(c, -1);
        }
        return units;
    }

    Map<Label, Value> values(List<Label> labels, int last, Set<Integer> shared, BigInteger[] units) {
        Map<Label, Value> best = new HashMap<>();
        for (Label label : labels) {
            if (label.cell == last && label.toCome == 0 && label.heading != 16) {
                best.put(label, new Value(BigInteger.ZERO, 0, 0));
            }
        }
        boolean changed = true;
        while (changed) {
            changed = false;
            for (Label label : labels) {
                for (int heading = 0; heading < 16; heading++) {
                    Label next = next(label, heading, shared);
                    Value rest = next == null ? null : best.get(next);
                    if (rest == null) {
                        continue;
                    }
                    Value here = along(label, next, rest, units);
                    if (!best.containsKey(label) || here.compareTo(best.get(label)) < 0) {
                        best.put(label, here);
                        changed = true;
                    }
                }
            }
        }
        return best;
    }

    int seek(int first, int last, Set<Integer> shared, int m) {
        BigInteger[] units = units();
        Map<Label, Value> best = values(labels(first, m), last, shared, units);
        List<Label> order = new ArrayList<>(best.keySet());
        Comparator<Label> byValue = Comparator.comparing(best::get);
        order.sort(byValue.thenComparing(Label::code));
        Label goal = null;
        labelsClosed = 0;
        for (Label label : order) {
            labelsClosed++;
            if (label.heading == 16) {
                goal = label;
                break;
            }
        }
        int closed = (int) Math.min(nodes, labelsClosed);
        lastBound = closed == 0 ? -1 : best.get(order.get(closed - 1)).cost.divide(denominator()).longValueExact();
        lastProved = labelsClosed <= nodes;
        if (!lastProved || goal == null) {
            return lastProved ? -1 : -2;
        }
        found.add(wayFrom(goal, best, shared, units));
        return found.get(found.size() - 1).cells.size() - 1;
    }

    Way wayFrom(Label goal, Map<Label, Value> best, Set<Integer> shared, BigInteger[] units) {
        Way way = new Way(new ArrayList<>(List.of(goal.cell)), new ArrayList<>(List.of(16)));
        Label here = goal;
        while (best.get(here).moves > 0) {
            Label chosen = null;
            for (int heading = 0; heading < 16; heading++) {
                Label next = next(here, heading, shared);
                if (next != null && best.containsKey(next) && (chosen == null || next.cell < chosen.cell)
                        && along(here, next, best.get(next), units).compareTo(best.get(here)) == 0) {
                    chosen = next;
                }
            }
            here = chosen;
            way.cells.add(here.cell);
            way.headings.add(here.heading);
        }
        return way;
    }

    int run(int x0, int y0, int x1, int y1, long limit) {
        if (!inside(x0, y0) || !inside(x1, y1) || limit < 1 || limit > 100000 || x0 == x1 && y0 == y1
                || barred[y0 * w + x0] || barred[y1 * w + x1]) {
            return -3;
        }
        nodes = limit;
        found.clear();
        return seek(y0 * w + x0, y1 * w + x1, Set.of(), 0);
    }

    int unlike(long up, long low) {
        if (low < 1 || low > 100 || up < 0 || up > low || found.isEmpty() || found.size() == 6) {
            return -3;
        }
        List<Integer> oldest = found.get(0).cells;
        int first = oldest.get(0);
        int last = oldest.get(oldest.size() - 1);
        if (barred[first] || barred[last]) {
            return -3;
        }
        return seek(first, last, shared(), sharedMost(up, low));
    }

    Set<Integer> shared() {
        List<Integer> oldest = found.get(0).cells;
        Set<Integer> shared = new HashSet<>();
        found.forEach(way -> shared.addAll(way.cells));
        shared.remove(oldest.get(0));
        shared.remove(oldest.get(oldest.size() - 1));
        return shared;
    }

    int sharedMost(long up, long low) {
        return (int) Math.min(8, (found.get(0).cells.size() - 2) * up / low);
    }

    Way hand() {
        return found.isEmpty() ? null : found.get(found.size() - 1);
    }

    int at(int k, int axis) {
        Way way = hand();
        if (way == null || k < 0 || k >= way.cells.size() || axis < 0 || axis > 2) {
            return -1;
        }
        int c = way.cells.get(k);
        return axis == 0 ? c % w : axis == 1 ? c / w : way.headings.get(k);
    }

    static long part(BigInteger up, BigInteger low, int part) {
        BigInteger divisor = up.gcd(low);
        return (part == 0 ? up : low).divide(divisor).longValueExact();
    }

    long cost(int part) {
        return hand() == null || part < 0 || part > 1 ? -1 : part(wayCost(hand(), -1), denominator(), part);
    }

    long bound() {
        return lastBound;
    }

    boolean proved() {
        return lastProved;
    }

    BigInteger amount(Way way, int a) {
        BigInteger sum = BigInteger.ZERO;
        for (int k = 1; k < way.cells.size(); k++) {
            int c = way.cells.get(k);
            sum = bridged(c) ? sum : sum.add(BigInteger.valueOf(length(way.headings.get(k)) * told(a, c)));
        }
        return sum.multiply(denominator());
    }

    /** Tries every crossing of two ways, 0, and a weight far off, and looks which of them keep the way. */
    long span(int a, int end, int part) {
        if (hand() == null || a < 0 || a > 3 || end < 0 || end > 1 || part < 0 || part > 1) {
            return -1;
        }
        BigInteger far = BigInteger.TEN.pow(40);
        List<BigInteger[]> tries = new ArrayList<>();
        tries.add(new BigInteger[] {BigInteger.ZERO, BigInteger.ONE});
        tries.add(new BigInteger[] {far, BigInteger.ONE});
        for (Way other : found) {
            BigInteger low = amount(hand(), a).subtract(amount(other, a));
            BigInteger up = wayCost(other, a).subtract(wayCost(hand(), a));
            if (low.signum() != 0 && up.signum() * low.signum() >= 0) {
                tries.add(new BigInteger[] {up.abs(), low.abs()});
            }
        }
        BigInteger[] chosen = null;
        for (BigInteger[] one : tries) {
            if (keepsAt(a, one[0], one[1])) {
                int sign = chosen == null ? 0 : one[0].multiply(chosen[1]).compareTo(chosen[0].multiply(one[1]));
                chosen = chosen == null || (end == 0 ? sign < 0 : sign > 0) ? one : chosen;
            }
        }
        if (chosen == null) {
            return part == 0 ? -1 : 1;
        }
        return chosen[0].equals(far) ? 1 - part : part(chosen[0], chosen[1], part);
    }

    boolean keepsAt(int a, BigInteger up, BigInteger low) {
        BigInteger mine = wayCost(hand(), a).multiply(low).add(amount(hand(), a).multiply(up));
        for (Way other : found) {
            BigInteger its = wayCost(other, a).multiply(low).add(amount(other, a).multiply(up));
            if (its.compareTo(mine) < 0) {
                return false;
            }
        }
        return true;
    }

    long sum(int z) {
        if (hand() == null || z < 0 || z > 7) {
            return -1;
        }
        return hand().cells.stream().filter(c -> zone[c] == z).mapToLong(c -> cost[c]).sum();
    }

    int turns() {
        return hand() == null ? -1 : turnsOf(hand());
    }

    boolean keeps() {
        return hand() != null && kept(hand());
    }
}
