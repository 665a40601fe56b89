import java.util.HashMap;
import java.util.Map;
import java.util.Random;

/**
 * Promises 20 and 21 against two slow ways: all lines tried one by one in the order of like ones,
 * for short lines; and for long ones a search forward that remembers what it has seen.
 */
public final class BestLineTest {
    private static final int NOT_LAID = -1_073_741_824;

    private final Random random;
    private int[] widths;
    private int[] prices;
    private int[] grounds;
    private int[] lengths;
    private int[] needs;
    private int bottom;
    private int cover;
    private int dig;

    private long bestCost;
    private int[] bestLine;
    private int[] line;
    private final Map<Long, Long> seen = new HashMap<>();

    private BestLineTest(int seed) {
        random = new Random(seed);
    }

    public static void main(String[] args) {
        int found = 0;
        for (int seed = 0; seed < 1_500; seed++) {
            BestLineTest test = new BestLineTest(seed);
            test.makeTask(1 + seed % 2, 6);
            found += test.compareWithAll();
        }
        for (int seed = 5_000; seed < 5_060; seed++) {
            BestLineTest test = new BestLineTest(seed);
            test.makeTask(3, 2);
            found += test.compareWithAll();
        }
        for (int seed = 10_000; seed < 10_150; seed++) {
            BestLineTest test = new BestLineTest(seed);
            test.makeTask(3 + seed % 8, 6);
            found += test.compareWithSearch();
        }
        Check.same("many tasks have a line, many have none: " + found, found > 500 && found < 1_500, true);
        Check.end();
    }

    private int between(int least, int most) {
        return least + random.nextInt(most - least + 1);
    }

    private void makeTask(int pieces, int mostEntries) {
        int entries = between(1, mostEntries);
        widths = new int[entries];
        prices = new int[entries];
        int width = between(10, 200);
        int priceKind = random.nextInt(3);
        for (int e = 0; e < entries; e++) {
            widths[e] = width;
            width += between(1, 60);
            prices[e] = priceKind == 0 ? between(0, 2) : priceKind == 1 ? 10 * e : between(0, 200);
        }
        grounds = new int[pieces + 1];
        lengths = new int[pieces];
        needs = new int[pieces];
        cover = between(0, 100);
        bottom = between(-1_000, 1_000);
        grounds[0] = bottom + cover + widths[0] + between(-5, 60);
        for (int k = 0; k < pieces; k++) {
            grounds[k + 1] = grounds[k] + between(-60, 15);
            lengths[k] = random.nextBoolean() ? 10 : between(1, 300);
            long square = (long) widths[0] * widths[0];
            long great = Math.min(10_000, 60 * square / (1_000L * lengths[k]));
            needs[k] = random.nextInt(3) == 0 ? 0 : between(0, (int) great);
        }
        int[] digs = {0, 0, 1, 2, 50, 1_000};
        dig = digs[random.nextInt(digs.length)];
    }

    private StormPipes build() {
        StormPipes x = new StormPipes(1);
        for (int e = 0; e < widths.length; e++) {
            x.list(widths[e], prices[e]);
        }
        if (random.nextBoolean()) {
            // What was laid before leaves no trace.
            x.begin(7, -3_000);
            for (int k = 0; k < 10; k++) {
                x.piece(k, 1 + k, 0);
            }
            x.lay(1, 1);
        }
        x.begin(grounds[0], bottom);
        for (int k = 0; k < lengths.length; k++) {
            x.piece(grounds[k + 1], lengths[k], needs[k]);
        }
        return x;
    }

    private boolean fits(int k, int e, int fall, int at) {
        boolean carries = (long) widths[e] * widths[e] * fall >= 1_000L * lengths[k] * needs[k];
        boolean coveredFirst = grounds[k] - at >= cover + widths[e];
        boolean coveredLast = grounds[k + 1] - (at - fall) >= cover + widths[e];
        return carries && coveredFirst && coveredLast;
    }

    private long costOf(int k, int e, int fall, int at) {
        return lengths[k] * (prices[e] + (long) dig * (grounds[k + 1] - (at - fall)));
    }

    private int compareWithAll() {
        bestCost = Long.MAX_VALUE;
        bestLine = null;
        line = new int[2 * lengths.length];
        tryAll(0, 0, bottom, 0);
        return compare();
    }

    private void tryAll(int k, int narrowest, int at, long cost) {
        if (k == lengths.length) {
            if (cost < bestCost) {
                bestCost = cost;
                bestLine = line.clone();
            }
            return;
        }
        for (int e = narrowest; e < widths.length; e++) {
            for (int fall = 1; fall <= 40; fall++) {
                if (fits(k, e, fall, at)) {
                    line[2 * k] = e;
                    line[2 * k + 1] = fall;
                    tryAll(k + 1, e, at - fall, cost + costOf(k, e, fall, at));
                }
            }
        }
    }

    private int compareWithSearch() {
        bestCost = search(0, 0, bottom);
        bestLine = null;
        if (bestCost < Long.MAX_VALUE) {
            bestLine = new int[2 * lengths.length];
            int at = bottom;
            int narrowest = 0;
            for (int k = 0; k < lengths.length; k++) {
                followOn(k, narrowest, at);
                narrowest = bestLine[2 * k];
                at -= bestLine[2 * k + 1];
            }
        }
        return compare();
    }

    private long search(int k, int narrowest, int at) {
        if (k == lengths.length) {
            return 0;
        }
        long key = (k * 10L + narrowest) * 1_000_000L + (at + 500_000);
        Long known = seen.get(key);
        if (known != null) {
            return known;
        }
        long least = Long.MAX_VALUE;
        for (int e = narrowest; e < widths.length; e++) {
            for (int fall = 1; fall <= 40; fall++) {
                least = Math.min(least, with(k, e, fall, at));
            }
        }
        seen.put(key, least);
        return least;
    }

    private long with(int k, int e, int fall, int at) {
        if (!fits(k, e, fall, at)) {
            return Long.MAX_VALUE;
        }
        long behind = search(k + 1, e, at - fall);
        return behind == Long.MAX_VALUE ? behind : behind + costOf(k, e, fall, at);
    }

    private void followOn(int k, int narrowest, int at) {
        long due = search(k, narrowest, at);
        for (int e = narrowest; e < widths.length; e++) {
            for (int fall = 1; fall <= 40; fall++) {
                if (with(k, e, fall, at) == due) {
                    bestLine[2 * k] = e;
                    bestLine[2 * k + 1] = fall;
                    return;
                }
            }
        }
    }

    private int compare() {
        StormPipes x = build();
        Check.same("lay(" + cover + ", " + dig + ")", x.lay(cover, dig), bestLine == null ? -2 : bestCost);
        int at = bottom;
        for (int k = 0; k < lengths.length; k++) {
            if (bestLine != null) {
                at -= bestLine[2 * k + 1];
            }
            Check.same("laid(" + k + ", 0)", x.laid(k, 0), bestLine == null ? NOT_LAID : bestLine[2 * k]);
            Check.same("laid(" + k + ", 1)", x.laid(k, 1), bestLine == null ? NOT_LAID : bestLine[2 * k + 1]);
            Check.same("laid(" + k + ", 2)", x.laid(k, 2), bestLine == null ? NOT_LAID : at);
        }
        return bestLine == null ? 0 : 1;
    }
}
