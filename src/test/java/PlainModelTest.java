import java.util.Random;

/** Runs of calls, always the same ones, whose answers are those of the plain model. */
public final class PlainModelTest {

    private final Random random;
    private final int seed;
    private final CorridorCells cells;
    private final PlainCells plain;
    private int calls = 0;

    private PlainModelTest(int seed, int width, int height) {
        this.seed = seed;
        random = new Random(seed);
        cells = new CorridorCells(width, height);
        plain = new PlainCells(width, height);
    }

    public static void main(String[] args) {
        int seeds = args.length > 0 ? Integer.parseInt(args[0]) : 2500;
        int from = args.length > 1 ? Integer.parseInt(args[1]) : 0;
        for (int seed = from; seed < from + seeds && !Check.hasWrong(); seed++) {
            Random sizes = new Random(seed * 31L + 7);
            int most = seed % 40 == 0 ? 12 : seed % 4 == 0 ? 6 : 4;
            new PlainModelTest(seed, sizes.nextInt(most + 1), 1 + sizes.nextInt(most)).play();
        }
        Check.end();
    }

    private int x() {
        return random.nextInt(40) == 0 ? random.nextInt(5) - 2 + plain.w : random.nextInt(plain.w);
    }

    private int y() {
        return random.nextInt(40) == 0 ? -random.nextInt(2) : random.nextInt(plain.h);
    }

    /** Mostly within the limits, now and then just outside or far outside. */
    private int near(int least, int greatest) {
        switch (random.nextInt(50)) {
            case 0:
                return least - 1;
            case 1:
                return greatest + 1;
            case 2:
                return random.nextBoolean() ? Integer.MIN_VALUE : Integer.MAX_VALUE;
            default:
                return least + random.nextInt(greatest - least + 1);
        }
    }

    /** What an object answers behind its 512th call is free. */
    private void due(String call, long got, long want) {
        calls++;
        if (calls > 512) {
            return;
        }
        Check.due("seed " + seed + " call " + calls + ": " + call, got, want);
    }

    private void due(String call, boolean got, boolean want) {
        due(call, got ? 1 : 0, want ? 1 : 0);
    }

    private void play() {
        int costs = random.nextInt(3) == 0 ? 1 : random.nextInt(2) == 0 ? 3 : 999;
        for (int i = 0; i < plain.w * plain.h; i++) {
            tellCell(i % plain.w, i / plain.w, costs);
        }
        if (random.nextInt(3) == 0) {
            tellRiver();
        }
        int bars = random.nextInt(1 + plain.w * plain.h / 2);
        for (int i = 0; i < bars && random.nextInt(8) > 0; i++) {
            tellBarOrBridge();
        }
        int aims = random.nextInt(2) * random.nextInt(60);
        for (int i = 0; i < aims; i++) {
            tellAim(random.nextInt(4), x(), y());
        }
        tellMoves();
        int rounds = plain.w * plain.h > 40 ? 2 : 5;
        for (int round = 0; round < rounds && calls < 512; round++) {
            for (int i = random.nextInt(12); i > 0; i--) {
                tellAny(costs);
            }
            runOnce();
            ask();
            for (int i = plain.hand() == null ? random.nextInt(2) : random.nextInt(8); i > 0; i--) {
                for (int k = random.nextInt(8) - 5; k > 0; k--) {
                    tellAny(costs);
                }
                unlikeOnce();
                ask();
            }
        }
    }

    private void tellCell(int x, int y, int costs) {
        int cost = near(0, costs);
        int level = near(0, random.nextInt(30) == 0 ? 9999 : 3);
        due("cell", cells.cell(x, y, cost, level), plain.cell(x, y, cost, level));
    }

    private void tellBarOrBridge() {
        int x = x();
        int y = y();
        if (random.nextInt(3) > 0) {
            due("bar", cells.bar(x, y), plain.bar(x, y));
        }
        if (random.nextInt(3) > 0) {
            int most = near(1, 3);
            long cents = near(0, random.nextBoolean() ? 9999 : 2);
            due("bridge", cells.bridge(x, y, most, cents), plain.bridge(x, y, most, cents));
        }
    }

    /** Barred columns from top to bottom, most of their cells with bridges. */
    private void tellRiver() {
        int from = random.nextInt(plain.w);
        int to = Math.min(plain.w - 1, from + random.nextInt(3));
        for (int x = from; x <= to; x++) {
            for (int y = 0; y < plain.h; y++) {
                due("bar", cells.bar(x, y), plain.bar(x, y));
                int most = Math.min(3, 1 + random.nextInt(5));
                if (random.nextInt(4) > 0) {
                    due("bridge", cells.bridge(x, y, most, 2), plain.bridge(x, y, most, 2));
                }
            }
        }
    }

    private void tellAim(int aim, int x, int y) {
        long v = near(0, random.nextBoolean() ? 999 : 4);
        due("aim", cells.aim(aim, x, y, v), plain.aim(aim, x, y, v));
    }

    private void tellMoves() {
        int reach = near(1, 2);
        int slope = random.nextInt(4) == 0 ? near(0, 3) : 9999;
        int turn = random.nextBoolean() ? near(0, 8) : 1 + random.nextInt(3);
        due("moves", cells.moves(reach, slope, turn), plain.moves(reach, slope, turn));
    }

    private void tellAny(int costs) {
        int x = x();
        int y = y();
        int aim = near(0, 3);
        switch (random.nextInt(9)) {
            case 0:
                tellCell(x, y, costs);
                break;
            case 1:
                tellBarOrBridge();
                break;
            case 2:
                tellMoves();
                break;
            case 3:
            case 4:
                tellAim(aim, x, y);
                break;
            case 5:
            case 6:
                long above = near(0, random.nextBoolean() ? 20 : 2);
                long below = near(1, 6);
                due("weight", cells.weight(aim, above, below), plain.weight(aim, above, below));
                break;
            case 7:
                int person = near(0, 7);
                int kind = near(0, 3);
                due("mark", cells.mark(person, x, y, kind), plain.mark(person, x, y, kind));
                break;
            default:
                int zone = near(0, 7);
                due("zone", cells.zone(zone, x, y), plain.zone(zone, x, y));
        }
    }

    /** Some runs are made once more with just as many labels as they need, and with one less. */
    private void runOnce() {
        int first = end();
        int last = end();
        for (int i = 0; i < 20 && last == first; i++) {
            last = end();
        }
        int stray = random.nextInt(30) == 0 ? x() : 0;
        int x0 = first % plain.w + stray;
        int y0 = first / plain.w;
        int x1 = last % plain.w;
        int y1 = last / plain.w - stray;
        long nodes = random.nextInt(5) == 0 ? near(1, 400) : random.nextInt(9) == 0 ? near(1, 100000) : 100000;
        runWith(x0, y0, x1, y1, nodes);
        if (random.nextInt(3) == 0 && plain.labelsClosed > 1) {
            long needed = plain.labelsClosed;
            runWith(x0, y0, x1, y1, needed - 1);
            runWith(x0, y0, x1, y1, needed);
        }
    }

    /** Most often a cell that is not barred. */
    private int end() {
        int cell = random.nextInt(plain.w * plain.h);
        for (int i = 0; i < 20 && plain.barred[cell]; i++) {
            cell = random.nextInt(plain.w * plain.h);
        }
        return cell;
    }

    private void runWith(int x0, int y0, int x1, int y1, long nodes) {
        String call = "run(" + x0 + ", " + y0 + ", " + x1 + ", " + y1 + ", " + nodes + ")";
        due(call, cells.run(x0, y0, x1, y1, nodes), plain.run(x0, y0, x1, y1, nodes));
        due("bound after " + call, cells.bound(), plain.bound());
        due("proved after " + call, cells.proved(), plain.proved());
    }

    private void unlikeOnce() {
        long below = random.nextInt(3) == 0 ? near(1, 100) : near(1, 4);
        long above = below < 1 || below > 100 ? near(0, 4) : near(0, (int) below);
        if (random.nextInt(3) == 0) {
            above = below;
        }
        due("unlike(" + above + ", " + below + ")", cells.unlike(above, below), plain.unlike(above, below));
    }

    private void ask() {
        for (int k = -1; k <= (plain.hand() == null ? 1 : plain.hand().cells().size()); k++) {
            for (int i = 0; i < 2; i++) {
                int axis = near(0, 2);
                due("at(" + k + ", " + axis + ")", cells.at(k, axis), plain.at(k, axis));
            }
        }
        for (int part = 0; part <= 1; part++) {
            due("cost(" + part + ")", cells.cost(part), plain.cost(part));
        }
        for (int i = 0; i < 6; i++) {
            int aim = near(0, 3);
            int end = near(0, 1);
            int part = near(0, 1);
            due("span(" + aim + ", " + end + ", " + part + ")", cells.span(aim, end, part), plain.span(aim, end, part));
        }
        for (int i = 0; i < 2; i++) {
            int zone = near(0, 7);
            due("sum(" + zone + ")", cells.sum(zone), plain.sum(zone));
        }
        due("bound()", cells.bound(), plain.bound());
        due("proved()", cells.proved(), plain.proved());
        due("turns()", cells.turns(), plain.turns());
        due("keeps()", cells.keeps(), plain.keeps());
    }
}
