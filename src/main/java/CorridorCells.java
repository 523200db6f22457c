import java.util.Arrays;

/** Ways of least cost for a road over a grid of cells; the document's numbered promises say what each call answers. */
public final class CorridorCells {
    public static final int BAD = -1, SPENT = -2;

    private static final int NO_WAY = -1, REFUSED = -3, NOWHERE = -1;
    private static final int SIDE_MOST = 12, AIMS = 4, MARKED_AIM = 3, PERSONS = 8, KINDS = 4, ZONES = 8;
    private static final int COST_MOST = 999, LEVEL_MOST = 9999, VALUE_MOST = 999, CENTS_MOST = 9999, MOST_MOST = 3;
    private static final int REACH_MOST = 2, TURN_MOST = 8, ABOVE_MOST = 20, BELOW_MOST = 6;
    private static final int HUNDRED = 100, SHARED_MOST = 8, FOUND_MOST = 6, NODES_MOST = 100000;
    private static final int HEADINGS = 16, NO_HEADING = 16, HEADING_ROWS = 17;

    /** All lower parts of weights divide it, so that costs in sixtieths are whole numbers. */
    private static final int SCALE = 60;

    private static final int[] DX = {1, 2, 1, 1, 0, -1, -1, -2, -1, -2, -1, -1, 0, 1, 1, 2};
    private static final int[] DY = {0, 1, 1, 2, 1, 2, 1, 1, 0, -1, -1, -2, -1, -2, -1, -1};
    private static final int[] LENGTHS = {10, 22, 14, 22, 10, 22, 14, 22, 10, 22, 14, 22, 10, 22, 14, 22};

    private final Ground ground;
    private final Search search;
    private final Way[] found;
    private int foundCount;
    private long lastNodes;
    private long lastBound;
    private boolean lastProved;

    public CorridorCells(int width, int height) {
        ground = new Ground(Math.max(1, Math.min(SIDE_MOST, width)), Math.max(1, Math.min(SIDE_MOST, height)));
        search = new Search(ground);
        found = new Way[FOUND_MOST];
        for (int i = 0; i < FOUND_MOST; i++) {
            found[i] = new Way();
        }
        foundCount = 0;
        lastNodes = 0;
        lastBound = BAD;
        lastProved = false;
    }

    public boolean cell(int x, int y, int cost, int level) {
        int place = ground.numberOf(x, y);
        if (place < 0 || !within(cost, 0, COST_MOST) || !within(level, 0, LEVEL_MOST)) {
            return false;
        }
        ground.prices[place] = cost;
        ground.levels[place] = level;
        return true;
    }

    public boolean bar(int x, int y) {
        int place = ground.numberOf(x, y);
        if (place < 0 || ground.barred[place]) {
            return false;
        }
        ground.barred[place] = true;
        return true;
    }

    public boolean moves(int reach, int slope, int turn) {
        if (!within(reach, 1, REACH_MOST) || !within(slope, 0, LEVEL_MOST) || !within(turn, 0, TURN_MOST)) {
            return false;
        }
        ground.reach = reach;
        ground.slope = slope;
        ground.turn = turn;
        return true;
    }

    public boolean aim(int aim, int x, int y, long v) {
        int place = ground.numberOf(x, y);
        if (place < 0 || !isAim(aim) || !within(v, 0, VALUE_MOST)) {
            return false;
        }
        ground.values[aim * ground.size + place] = (int) v;
        return true;
    }

    public boolean weight(int aim, long above, long below) {
        if (!isAim(aim) || !within(above, 0, ABOVE_MOST) || !within(below, 1, BELOW_MOST)) {
            return false;
        }
        ground.weights[aim] = above * (SCALE / below);
        return true;
    }

    public int run(int x0, int y0, int x1, int y1, long nodes) {
        int first = ground.numberOf(x0, y0);
        int last = ground.numberOf(x1, y1);
        if (first < 0 || last < 0 || first == last || !within(nodes, 1, NODES_MOST)) {
            return REFUSED;
        }
        if (ground.barred[first] || ground.barred[last]) {
            return REFUSED;
        }
        foundCount = 0;
        lastNodes = nodes;
        search.shareNothing();
        return seek(first, last, 0);
    }

    public int at(int k, int axis) {
        Way way = wayAtHand();
        if (way == null || !within(k, 0, way.length)) {
            return BAD;
        }
        switch (axis) {
            case 0:
                return ground.columns[way.places[k]];
            case 1:
                return ground.rows[way.places[k]];
            case 2:
                return way.headings[k];
            default:
                return BAD;
        }
    }

    public long cost(int part) {
        Way way = wayAtHand();
        if (way == null || !within(part, 0, 1)) {
            return BAD;
        }
        return leastTerm(way.scaledCost(ground), SCALE, part);
    }

    public long bound() {
        return lastBound;
    }

    public boolean proved() {
        return lastProved;
    }

    public int unlike(long above, long below) {
        if (!within(below, 1, HUNDRED) || !within(above, 0, below)) {
            return REFUSED;
        }
        if (foundCount < 1 || foundCount >= FOUND_MOST) {
            return REFUSED;
        }
        Way oldest = found[0];
        int first = oldest.firstPlace();
        int last = oldest.lastPlace();
        if (ground.barred[first] || ground.barred[last]) {
            return REFUSED;
        }
        long most = (oldest.length - 1) * above / below;
        return seek(first, last, (int) Math.min(SHARED_MOST, most));
    }

    public long span(int aim, int end, int part) {
        Way way = wayAtHand();
        if (way == null || !isAim(aim) || !within(end, 0, 1) || !within(part, 0, 1)) {
            return BAD;
        }
        Span span = new Span();
        long slope = way.amountOf(ground, aim);
        long rest = way.scaledCost(ground) - ground.weights[aim] * slope;
        for (int i = 0; i < foundCount; i++) {
            long otherSlope = found[i].amountOf(ground, aim);
            long otherRest = found[i].scaledCost(ground) - ground.weights[aim] * otherSlope;
            span.keepBelow(slope - otherSlope, otherRest - rest);
        }
        return span.told(end, part);
    }

    public boolean bridge(int x, int y, int most, long cents) {
        int place = ground.numberOf(x, y);
        if (place < 0 || !within(most, 1, MOST_MOST) || !within(cents, 0, CENTS_MOST)) {
            return false;
        }
        ground.mosts[place] = most;
        ground.cents[place] = (int) cents;
        return true;
    }

    public int mark(int person, int x, int y, int kind) {
        int place = ground.numberOf(x, y);
        if (place < 0 || !within(person, 0, PERSONS - 1) || !within(kind, 0, KINDS - 1)) {
            return BAD;
        }
        return ground.putMark(place, person, kind);
    }

    public int zone(int z2, int x, int y) {
        int place = ground.numberOf(x, y);
        if (place < 0 || !isZone(z2)) {
            return BAD;
        }
        int before = ground.zones[place];
        ground.zones[place] = z2;
        return before;
    }

    public long sum(int z2) {
        Way way = wayAtHand();
        if (way == null || !isZone(z2)) {
            return BAD;
        }
        long total = 0;
        for (int k = 0; k <= way.length; k++) {
            int place = way.places[k];
            if (ground.zones[place] == z2) {
                total += ground.prices[place];
            }
        }
        return total;
    }

    public int turns() {
        Way way = wayAtHand();
        return way == null ? BAD : way.turnCount();
    }

    public boolean keeps() {
        Way way = wayAtHand();
        return way != null && way.isKept(ground);
    }

    /** The way at hand is always the one that was found last: run() forgets all others, unlike() adds one. */
    private Way wayAtHand() {
        return foundCount < 1 || foundCount > FOUND_MOST ? null : found[foundCount - 1];
    }

    /** Looks for a way; one that is found is at hand then, and its cells are shared from then on. */
    private int seek(int first, int last, int sharedMost) {
        int goal = search.close(first, last, sharedMost, lastNodes);
        lastBound = search.lastCost < 0 ? BAD : search.lastCost / SCALE;
        lastProved = goal != SPENT;
        if (goal < 0 || foundCount >= FOUND_MOST) {
            return goal;
        }
        Way way = found[foundCount];
        search.trace(goal, way);
        search.share(way);
        foundCount++;
        return way.length;
    }

    private static boolean isAim(int aim) {
        return within(aim, 0, AIMS - 1);
    }

    private static boolean isZone(int zone) {
        return within(zone, 0, ZONES - 1);
    }

    private static boolean within(long number, long least, long greatest) {
        return number >= least && number <= greatest;
    }

    private static long greatestDivisor(long a, long b) {
        long high = a;
        long low = b;
        for (int i = 0; i < 200 && low != 0; i++) {
            long left = high % low;
            high = low;
            low = left;
        }
        return high;
    }

    /** Part 0 or 1 of a fraction in least terms; neither upper nor lower is negative. */
    private static long leastTerm(long upper, long lower, int part) {
        long divisor = greatestDivisor(upper, lower);
        long told = part == 0 ? upper : lower;
        return divisor <= 0 ? told : told / divisor;
    }

    /** Compares fractions that are not negative by their whole parts, since cross products could overflow. */
    private static int compareFractions(long upperA, long lowerA, long upperB, long lowerB) {
        long a = upperA;
        long b = lowerA;
        long c = upperB;
        long d = lowerB;
        int sign = 1;
        for (int i = 0; i < 200 && b > 0 && d > 0; i++) {
            int whole = Long.compare(a / b, c / d);
            if (whole != 0) {
                return sign * whole;
            }
            long leftA = a % b;
            long leftC = c % d;
            // of two parts below one the greater has the lesser inverse, so the order turns round
            a = b;
            b = leftA;
            c = d;
            d = leftC;
            sign = -sign;
        }
        // a lower part of 0 stands for the inverse of 0, above all others
        return sign * ((b == 0 ? 1 : 0) - (d == 0 ? 1 : 0));
    }

    /** The cells, what is told of them, and the rules of moves. */
    private static final class Ground {
        final int width;
        final int height;
        final int size;
        final int[] columns;
        final int[] rows;
        /** For each cell and heading the cell so far off, or NOWHERE. */
        private final int[] neighbours;
        final int[] prices;
        final int[] levels;
        final boolean[] barred;
        final int[] mosts;
        final int[] cents;
        final int[] zones;
        /** Two bits for each person's mark. */
        final int[] marks;
        final int[] values;
        /** In sixtieths. */
        final long[] weights;
        int reach;
        int slope;
        int turn;

        Ground(int width, int height) {
            this.width = width;
            this.height = height;
            size = width * height;
            columns = new int[size];
            rows = new int[size];
            for (int place = 0; place < size; place++) {
                columns[place] = place % width;
                rows[place] = place / width;
            }
            neighbours = new int[size * HEADINGS];
            for (int i = 0; i < neighbours.length; i++) {
                int place = i / HEADINGS;
                int heading = i % HEADINGS;
                neighbours[i] = numberOf(columns[place] + DX[heading], rows[place] + DY[heading]);
            }
            prices = new int[size];
            levels = new int[size];
            barred = new boolean[size];
            mosts = new int[size];
            cents = new int[size];
            zones = new int[size];
            marks = new int[size];
            values = new int[AIMS * size];
            weights = new long[AIMS];
            reach = 1;
            slope = LEVEL_MOST;
            turn = TURN_MOST;
        }

        int numberOf(int x, int y) {
            return x < 0 || x >= width || y < 0 || y >= height ? NOWHERE : y * width + x;
        }

        boolean isBridged(int place) {
            return barred[place] && mosts[place] > 0;
        }

        boolean isClosedOff(int place) {
            return barred[place] && mosts[place] == 0;
        }

        int putMark(int place, int person, int kind) {
            int shift = 2 * person;
            int packed = marks[place] & ~(3 << shift) | kind << shift;
            marks[place] = packed;
            return Integer.bitCount((packed | packed >> 1) & 0x5555);
        }

        long valueOf(int aim, int place) {
            long told = values[aim * size + place];
            if (aim != MARKED_AIM) {
                return told;
            }
            int packed = marks[place];
            return told + 10 * (Integer.bitCount(packed & 0x5555) + 2 * Integer.bitCount(packed & 0xAAAA));
        }

        /** What a move into a cell costs for each unit of its length, in sixtieths. */
        long unitCost(int place) {
            if (isBridged(place)) {
                return (long) SCALE * cents[place];
            }
            long total = (long) SCALE * prices[place];
            for (int aim = 0; aim < AIMS; aim++) {
                total += weights[aim] * valueOf(aim, place);
            }
            return total;
        }

        int headingStep() {
            return reach == 1 ? 2 : 1;
        }

        int ahead(int place, int heading) {
            return neighbours[place * HEADINGS + heading];
        }

        int behind(int place, int heading) {
            return neighbours[place * HEADINGS + (heading + HEADINGS / 2) % HEADINGS];
        }

        boolean isTooSteep(int one, int other) {
            return Math.abs(levels[one] - levels[other]) > slope;
        }

        /** The cell to which a move goes whose forerunner had the heading before, or NOWHERE if no way may have it. */
        int moveFrom(int place, int before, int heading) {
            if (reach == 1 && heading % 2 != 0) {
                return NOWHERE;
            }
            int next = ahead(place, heading);
            if (next < 0 || isClosedOff(next) || isTooSteep(place, next)) {
                return NOWHERE;
            }
            if (before == NO_HEADING || before == heading) {
                return next;
            }
            int apart = Math.abs(before - heading);
            boolean bends = Math.min(apart, HEADINGS - apart) <= turn;
            return bends && !isBridged(place) && !isBridged(next) ? next : NOWHERE;
        }

        /** How many bridged cells lie one behind the other up to this one, or NOWHERE if that is above its most. */
        int bridgedUpTo(int place, int bridgedBefore) {
            if (!isBridged(place)) {
                return 0;
            }
            return bridgedBefore < mosts[place] ? bridgedBefore + 1 : NOWHERE;
        }
    }

    /** A way that was found: place 0 is its first cell. */
    private static final class Way {
        int[] places = new int[SIDE_MOST];
        int[] headings = new int[SIDE_MOST];
        int length;

        void begin(int first, int length) {
            if (places.length <= length) {
                places = new int[2 * length + 1];
                headings = new int[2 * length + 1];
            }
            this.length = length;
            places[0] = first;
            headings[0] = NO_HEADING;
        }

        int firstPlace() {
            return places[0];
        }

        int lastPlace() {
            return places[length];
        }

        long scaledCost(Ground ground) {
            long total = 0;
            for (int k = 1; k <= length; k++) {
                total += LENGTHS[headings[k]] * ground.unitCost(places[k]);
            }
            return total;
        }

        /** By how much the way's cost grows with each unit of an aim's weight. */
        long amountOf(Ground ground, int aim) {
            long total = 0;
            for (int k = 1; k <= length; k++) {
                if (!ground.isBridged(places[k])) {
                    total += LENGTHS[headings[k]] * ground.valueOf(aim, places[k]);
                }
            }
            return total;
        }

        int turnCount() {
            int count = 0;
            for (int k = 2; k <= length; k++) {
                if (headings[k] != headings[k - 1]) {
                    count++;
                }
            }
            return count;
        }

        boolean isKept(Ground ground) {
            if (ground.barred[firstPlace()] || ground.barred[lastPlace()]) {
                return false;
            }
            int bridged = 0;
            for (int k = 1; k <= length; k++) {
                int next = ground.moveFrom(places[k - 1], headings[k - 1], headings[k]);
                if (next < 0) {
                    return false;
                }
                bridged = ground.bridgedUpTo(next, bridged);
                if (bridged < 0) {
                    return false;
                }
            }
            return true;
        }
    }

    /** The weights, none negative, that keep a way as cheap as others; in sixtieths until they are told. */
    private static final class Span {
        private long leastUpper = 0;
        private long leastLower = 1;
        private long greatestUpper = 1;
        private long greatestLower = 0;
        private boolean isEmpty = false;

        /** Keeps the weights that, times slope, are at most limit. */
        void keepBelow(long slope, long limit) {
            if (slope >= 0 && limit < 0) {
                isEmpty = true;
            } else if (slope > 0) {
                lowerGreatest(limit, slope);
            } else if (slope < 0 && limit < 0) {
                raiseLeast(-limit, -slope);
            }
        }

        private void lowerGreatest(long upper, long lower) {
            if (greatestLower == 0 || compareFractions(upper, lower, greatestUpper, greatestLower) < 0) {
                greatestUpper = upper;
                greatestLower = lower;
            }
        }

        private void raiseLeast(long upper, long lower) {
            if (compareFractions(upper, lower, leastUpper, leastLower) > 0) {
                leastUpper = upper;
                leastLower = lower;
            }
        }

        long told(int end, int part) {
            boolean hasGreatest = greatestLower != 0;
            if (isEmpty || hasGreatest && compareFractions(leastUpper, leastLower, greatestUpper, greatestLower) > 0) {
                return part == 0 ? -1 : 1;
            }
            if (end == 0) {
                return leastTerm(leastUpper, leastLower * SCALE, part);
            }
            return leastTerm(greatestUpper, greatestLower * SCALE, part);
        }
    }

    /** Closes labels from the end backwards, as the document orders them. */
    private static final class Search {
        private static final int CELL_CODES = 612, HEADING_CODES = 36, BRIDGED_CODES = 9;

        private final Ground ground;
        private final LabelQueue queue;
        /** Where the rows of a cell's labels begin. */
        private final int[] bases;
        private final long[] units;
        private final boolean[] shared;
        private int first;
        private int last;
        private int sharedMost;
        /** How many rows lie between those of two headings. */
        private int headingRows;
        long lastCost;

        Search(Ground ground) {
            this.ground = ground;
            queue = new LabelQueue(ground.size * HEADING_ROWS);
            bases = new int[ground.size];
            units = new long[ground.size];
            shared = new boolean[ground.size];
            lastCost = BAD;
        }

        void shareNothing() {
            for (int place = 0; place < shared.length; place++) {
                shared[place] = false;
            }
        }

        /** The ends are left out by their cells, since a way may come to them in between too. */
        void share(Way way) {
            for (int k = 0; k <= way.length; k++) {
                int place = way.places[k];
                shared[place] = place != way.firstPlace() && place != way.lastPlace();
            }
        }

        /** The row of the label of the first cell without a heading, or NO_WAY, or SPENT. */
        int close(int from, int to, int most, long nodes) {
            first = from;
            last = to;
            sharedMost = most;
            headingRows = most + 1;
            lastCost = BAD;
            layRows();
            openEnd();
            for (long closed = 0; closed < nodes; closed++) {
                int row = queue.takeLeast();
                if (row < 0) {
                    return NO_WAY;
                }
                lastCost = queue.costs[row];
                if (headingOf(queue.codeOf(row)) == NO_HEADING) {
                    return row;
                }
                openBefore(row);
            }
            return queue.isEmpty() ? NO_WAY : SPENT;
        }

        /** Only labels that can be have rows, so that a search without bridges stays small. */
        private void layRows() {
            int rows = 0;
            for (int place = 0; place < ground.size; place++) {
                bases[place] = rows;
                units[place] = ground.unitCost(place);
                int layers = ground.isBridged(place) ? ground.mosts[place] : ground.barred[place] ? 0 : 1;
                rows += layers * HEADING_ROWS * headingRows;
            }
            queue.reset(rows);
        }

        private void openEnd() {
            int step = ground.headingStep();
            for (int heading = 0; heading < HEADINGS; heading += step) {
                queue.offer(rowOf(last, heading, 0, 0), 0, 0, codeOf(last, heading, 0, 0));
            }
        }

        private void openBefore(int row) {
            int code = queue.codeOf(row);
            int place = code / CELL_CODES;
            int before = ground.behind(place, headingOf(code));
            if (before < 0 || ground.isClosedOff(before) || ground.isTooSteep(before, place)) {
                return;
            }
            int toCome = code % BRIDGED_CODES + (shared[place] ? 1 : 0);
            if (toCome > sharedMost) {
                return;
            }
            boolean bridgedBefore = ground.isBridged(before);
            int least = bridgedBefore ? 1 : 0;
            int greatest = bridgedBefore ? ground.mosts[before] : 0;
            if (ground.isBridged(place)) {
                int bridged = bridgedOf(code) - 1;
                least = Math.max(least, bridged);
                greatest = Math.min(greatest, bridged);
            }
            for (int bridged = least; bridged <= greatest; bridged++) {
                openHeadings(row, before, bridged, toCome);
            }
        }

        /** Opens the labels of a cell from which the label of a row is the next one. */
        private void openHeadings(int row, int before, int bridged, int toCome) {
            int code = queue.codeOf(row);
            int place = code / CELL_CODES;
            int heading = headingOf(code);
            long cost = queue.costs[row] + LENGTHS[heading] * units[place];
            long straight = queue.stepsOf(row) + LabelQueue.MOVE;
            int rowBase = rowOf(before, 0, bridged, toCome);
            int codeBase = codeOf(before, 0, bridged, toCome);
            if (before == first) {
                queue.offer(rowBase + NO_HEADING * headingRows, cost, straight, codeBase + NO_HEADING * HEADING_CODES);
            }
            queue.offer(rowBase + heading * headingRows, cost, straight, codeBase + heading * HEADING_CODES);
            if (ground.isBridged(place) || ground.isBridged(before)) {
                return;
            }
            long bent = straight + LabelQueue.TURN;
            int step = ground.headingStep();
            // a difference of 8 is the same heading both ways round, and comes only by the lower bound of the loop
            int lowest = ground.turn == TURN_MOST ? -TURN_MOST : -(ground.turn - ground.turn % step);
            int highest = Math.min(ground.turn, TURN_MOST - 1);
            for (int apart = lowest; apart <= highest; apart += step) {
                int other = heading + apart & HEADINGS - 1;
                if (apart != 0) {
                    queue.offer(rowBase + other * headingRows, cost, bent, codeBase + other * HEADING_CODES);
                }
            }
        }

        /** Writes the way that a closed label of the first cell stands for. */
        void trace(int goal, Way way) {
            int length = queue.movesOf(goal);
            way.begin(first, length);
            int row = goal;
            for (int k = 1; k <= length; k++) {
                row = nextRow(row);
                if (row < 0) {
                    return;
                }
                way.places[k] = queue.codeOf(row) / CELL_CODES;
                way.headings[k] = headingOf(queue.codeOf(row));
            }
        }

        /** Of the labels that a best way may have next, that of the cell with the least number. */
        private int nextRow(int row) {
            int best = NOWHERE;
            int bestPlace = ground.size;
            int step = ground.headingStep();
            for (int heading = 0; heading < HEADINGS; heading += step) {
                int next = rowAfter(row, heading);
                if (next >= 0 && queue.codeOf(next) / CELL_CODES < bestPlace) {
                    best = next;
                    bestPlace = queue.codeOf(next) / CELL_CODES;
                }
            }
            return best;
        }

        /** The row to which a move by a heading leads, or NOWHERE if no best way makes it. */
        private int rowAfter(int row, int heading) {
            int code = queue.codeOf(row);
            int before = headingOf(code);
            int next = ground.moveFrom(code / CELL_CODES, before, heading);
            if (next < 0) {
                return NOWHERE;
            }
            int bridged = ground.bridgedUpTo(next, bridgedOf(code));
            int toCome = code % BRIDGED_CODES - (shared[next] ? 1 : 0);
            if (bridged < 0 || toCome < 0) {
                return NOWHERE;
            }
            int after = rowOf(next, heading, bridged, toCome);
            if (!queue.isTaken(after)) {
                return NOWHERE;
            }
            long cost = queue.costs[after] + LENGTHS[heading] * units[next];
            boolean turned = before != NO_HEADING && before != heading;
            long steps = queue.stepsOf(after) + LabelQueue.MOVE + (turned ? LabelQueue.TURN : 0);
            return cost == queue.costs[row] && steps == queue.stepsOf(row) ? after : NOWHERE;
        }

        private int rowOf(int place, int heading, int bridged, int toCome) {
            int layer = bridged > 0 ? bridged - 1 : 0;
            return bases[place] + (layer * HEADING_ROWS + heading) * headingRows + toCome;
        }

        private static int codeOf(int place, int heading, int bridged, int toCome) {
            return place * CELL_CODES + heading * HEADING_CODES + bridged * BRIDGED_CODES + toCome;
        }

        private static int headingOf(int code) {
            return code % CELL_CODES / HEADING_CODES;
        }

        private static int bridgedOf(int code) {
            return code % HEADING_CODES / BRIDGED_CODES;
        }
    }

    /** Labels by rows, and a heap of the open ones; what is less in cost, then in rank, comes first. */
    private static final class LabelQueue {
        private static final int UNSEEN = -1, TAKEN = -2, STEP_BITS = 18, MASK = (1 << STEP_BITS) - 1;

        /** Steps hold turns above moves, and a rank holds steps above the label's code: one comparison serves all. */
        static final long MOVE = 1, TURN = 1L << STEP_BITS;

        long[] costs;
        private long[] ranks;
        /** A row's place in the heap, or UNSEEN, or TAKEN. */
        private int[] spots;
        private int[] heap;
        private int rowCount;
        private int count;

        LabelQueue(int room) {
            costs = new long[room];
            ranks = new long[room];
            spots = new int[room];
            heap = new int[room];
            rowCount = 0;
            count = 0;
        }

        /** Makes more room than is asked for, since each growth is kept to the end of a run. */
        void reset(int rows) {
            if (rows > spots.length) {
                int room = 2 * rows;
                costs = new long[room];
                ranks = new long[room];
                spots = new int[room];
                heap = new int[room];
            }
            rowCount = rows;
            count = 0;
            Arrays.fill(spots, 0, rows, UNSEEN);
        }

        int codeOf(int row) {
            return (int) (ranks[row] & MASK);
        }

        long stepsOf(int row) {
            return ranks[row] >> STEP_BITS;
        }

        int movesOf(int row) {
            return (int) (stepsOf(row) & MASK);
        }

        boolean isEmpty() {
            return count == 0;
        }

        boolean isTaken(int row) {
            return row >= 0 && row < rowCount && spots[row] == TAKEN;
        }

        void offer(int row, long cost, long steps, int code) {
            if (row < 0 || row >= rowCount) {
                return;
            }
            int spot = spots[row];
            long rank = steps << STEP_BITS | code;
            if (spot == TAKEN || spot != UNSEEN && !isLess(cost, rank, row)) {
                return;
            }
            if (spot == UNSEEN) {
                spot = count;
                count++;
            }
            costs[row] = cost;
            ranks[row] = rank;
            rise(row, spot);
        }

        /** The row of the least open label, which is closed by this, or NOWHERE. */
        int takeLeast() {
            if (count == 0) {
                return NOWHERE;
            }
            int least = heap[0];
            count--;
            if (count > 0) {
                sink(heap[count]);
            }
            spots[least] = TAKEN;
            return least;
        }

        private boolean isLess(long cost, long rank, int row) {
            return cost < costs[row] || cost == costs[row] && rank < ranks[row];
        }

        private void rise(int row, int from) {
            long cost = costs[row];
            long rank = ranks[row];
            int spot = from;
            while (spot > 0) {
                int parent = (spot - 1) / 2;
                int above = heap[parent];
                if (cost > costs[above] || cost == costs[above] && rank > ranks[above]) {
                    break;
                }
                heap[spot] = above;
                spots[above] = spot;
                spot = parent;
            }
            heap[spot] = row;
            spots[row] = spot;
        }

        /** Puts a row at the top and lets it go down to its place. */
        private void sink(int row) {
            long cost = costs[row];
            long rank = ranks[row];
            int spot = 0;
            int child = 1;
            while (child < count) {
                if (child + 1 < count && isLess(costs[heap[child + 1]], ranks[heap[child + 1]], heap[child])) {
                    child++;
                }
                int below = heap[child];
                if (isLess(cost, rank, below)) {
                    break;
                }
                heap[spot] = below;
                spots[below] = spot;
                spot = child;
                child = 2 * spot + 1;
            }
            heap[spot] = row;
            spots[row] = spot;
        }
    }
}
