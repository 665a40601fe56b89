import java.util.Random;

/**
 * Any numbers in any state: no call throws, all litres are kept, and an object that is never given
 * the calls which another one refused answers as that other one does.
 */
public final class WildTest {
    private static final int[] EDGES = {
        Integer.MIN_VALUE, Integer.MAX_VALUE, -100_001, -100_000, -2, -1, 0, 1, 2, 3, 7, 8, 9, 10, 23, 24, 40, 100,
        600, 1_000, 1_439, 3_000, 10_000, 20_000, 86_400, 99_999, 100_000, 100_001, 1_000_000};
    private static final int PROMISED_CALLS = 512;
    private static final int CALLS = 700;

    private final Random random;
    private final String where;
    private int refused;

    private WildTest(int seed) {
        random = new Random(seed);
        where = "seed " + seed;
    }

    public static void main(String[] args) {
        int refused = 0;
        for (int seed = 0; seed < 400; seed++) {
            WildTest test = new WildTest(seed);
            test.calls();
            refused += test.refused;
        }
        Check.same("many calls were refused", refused > 20_000, true);
        Check.end();
    }

    private void calls() {
        int nodes = number();
        StormPipes x = new StormPipes(nodes);
        StormPipes spared = new StormPipes(nodes);
        for (int call = 1; call <= CALLS; call++) {
            int which = random.nextInt(23);
            int[] v = numbers(which);
            long answer = answer(x, which, v);
            if (call <= PROMISED_CALLS && answer == refusal(which)) {
                refused++;
            } else {
                Check.same(where + ", call " + call, answer(spared, which, v), answer);
            }
        }
        Check.same(where + ": keeps()", x.keeps(), true);
        Check.same(where, Picture.now(spared), Picture.now(x));
    }

    private int number() {
        int kind = random.nextInt(4);
        if (kind == 0) {
            return EDGES[random.nextInt(EDGES.length)];
        }
        if (kind == 1) {
            return random.nextInt(12);
        }
        return kind == 2 ? random.nextInt(3_000) : random.nextInt(200_000) - 100_000;
    }

    private int[] numbers(int which) {
        int n = random.nextInt(6);
        int m = random.nextInt(6);
        switch (which) {
            case 1: return new int[] {random.nextInt(1_000), -1 - random.nextInt(1_000), 1 + random.nextInt(9)};
            case 2: return new int[] {n, m, number(), number()};
            case 3: case 6: return new int[] {n, number(), number()};
            case 4: return new int[] {random.nextInt(100), number()};
            case 5: return new int[] {n, m, number(), number(), number()};
            case 7: return new int[] {n, m, number()};
            case 8: return new int[] {n, number()};
            case 9: return new int[] {random.nextBoolean() ? number() : 1 + m};
            case 16: return n == 0 ? new int[] {number(), number()} : new int[] {0, -2_000 - m};
            case 18: return new int[] {-n, 1 + m, n};
            case 20: case 21: case 22: return new int[] {n, m};
            default: return new int[] {number(), number(), number(), number(), number()};
        }
    }

    /** What the call answers when it is refused, and so must have changed nothing. */
    private static long refusal(int which) {
        if (which == 8) {
            return -2;
        }
        return which == 16 ? 0 : -1;
    }

    private static long answer(StormPipes x, int which, int[] v) {
        switch (which) {
            case 0: case 1: return x.node(v[0], v[1], v[2]);
            case 2: return x.pipe(v[0], v[1], v[2], v[3]);
            case 3: return x.area(v[0], v[1], v[2]);
            case 4: return x.rain(v[0], v[1]);
            case 5: return x.pump(v[0], v[1], v[2], v[3], v[4]);
            case 6: return x.gate(v[0], v[1], v[2]);
            case 7: return x.gully(v[0], v[1], v[2]);
            case 8: return x.street(v[0], v[1]);
            case 9: return x.run(v[0]);
            case 10: return x.told(v[0], v[1]);
            case 11: return x.flow(v[0], v[1]);
            case 12: return x.cell(v[0]);
            case 13: return x.pumps(v[0]);
            case 14: return x.litres(v[0]);
            case 15: return x.list(v[0], v[1]);
            case 16: return x.begin(v[0], v[1]) ? 1 : 0;
            case 17: case 18: return x.piece(v[0], v[1], v[2]);
            case 19: case 20: return x.lay(v[0], v[1]);
            case 21: return x.laid(v[0], v[1]);
            default: return x.told(v[0], v[1]) + x.flow(v[0], v[1]) + x.count(v[0]);
        }
    }
}
