import java.util.Random;

/** Any numbers in any state: no call throws, and all litres are kept. */
public final class WildTest {
    private static final int[] EDGES = {
        Integer.MIN_VALUE, Integer.MAX_VALUE, -100_001, -100_000, -2, -1, 0, 1, 2, 3, 7, 8, 9, 10, 23, 24, 40, 100,
        600, 1_000, 1_439, 3_000, 10_000, 20_000, 86_400, 99_999, 100_000, 100_001, 1_000_000};

    public static void main(String[] args) {
        for (int seed = 0; seed < 400; seed++) {
            Random random = new Random(seed);
            StormPipes x = new StormPipes(number(random));
            for (int i = 0; i < 700; i++) {
                wildCall(x, random, random.nextInt(23));
            }
            Check.same("seed " + seed + ": keeps()", x.keeps(), true);
        }
        Check.end();
    }

    private static int number(Random random) {
        int kind = random.nextInt(4);
        if (kind == 0) {
            return EDGES[random.nextInt(EDGES.length)];
        }
        if (kind == 1) {
            return random.nextInt(12);
        }
        return kind == 2 ? random.nextInt(3_000) : random.nextInt(200_000) - 100_000;
    }

    private static void wildCall(StormPipes x, Random random, int which) {
        int a = number(random);
        int b = number(random);
        int c = number(random);
        int d = number(random);
        int n = random.nextInt(6);
        int m = random.nextInt(6);
        switch (which) {
            case 0: x.node(a, b, c); break;
            case 1: x.node(Math.abs(a % 1_000), -1 - Math.abs(b % 1_000), 1 + random.nextInt(9)); break;
            case 2: x.pipe(n, m, c, d); break;
            case 3: x.area(n, b, c); break;
            case 4: x.rain(random.nextInt(100), b); break;
            case 5: x.pump(n, m, a, b, c); break;
            case 6: x.gate(n, b, c); break;
            case 7: x.gully(n, m, c); break;
            case 8: x.street(n, b); break;
            case 9: x.run(a); break;
            case 10: x.told(n, m); x.told(a, b); break;
            case 11: x.flow(n, m); x.flow(a, b); break;
            case 12: x.cell(a); break;
            case 13: x.pumps(a); break;
            case 14: x.litres(a); break;
            case 15: x.list(a, b); break;
            case 16: if (n == 0) { x.begin(a, b); } else { x.begin(0, -2_000 - m); } break;
            case 17: x.piece(a, b, c); break;
            case 18: x.piece(-n, 1 + m, n); break;
            case 19: x.lay(a, b); break;
            case 20: x.lay(n, m); break;
            case 21: x.laid(n, m); x.laid(a, b); break;
            default: x.count(a); break;
        }
    }
}
