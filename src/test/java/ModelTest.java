import java.math.BigInteger;
import java.util.ArrayList;
import java.util.List;
import java.util.Random;

/** Promises 2 to 16 against a second, slow model of a second on nets that are made by chance from fixed seeds. */
public final class ModelTest {
    private final Random random;
    private final StormPipes x = new StormPipes(24);
    private final List<long[]> nodes = new ArrayList<>();
    private final List<BigInteger> litres = new ArrayList<>();
    private final List<long[]> told = new ArrayList<>();
    private final List<long[]> areas = new ArrayList<>();
    private final List<long[]> pipes = new ArrayList<>();
    private final List<long[]> flows = new ArrayList<>();
    private final List<long[]> pumps = new ArrayList<>();
    private final List<long[]> gates = new ArrayList<>();
    private final List<long[]> gullies = new ArrayList<>();
    private final int[] streets = new int[24];
    private final BigInteger[] areaRests = new BigInteger[24];
    private final BigInteger[] pipeRests = new BigInteger[40];
    private final boolean[] on = new boolean[8];
    private final long[] cells = new long[8];
    private final int[] rains = new int[1_440];
    private long rained;
    private long out;
    private long outside;
    private int seconds;

    private ModelTest(int seed) {
        random = new Random(seed);
    }

    public static void main(String[] args) {
        for (int seed = 0; seed < 200; seed++) {
            ModelTest test = new ModelTest(seed);
            for (int round = 0; round < 12; round++) {
                test.addSome(round == 0 ? 30 : 3);
                test.passSome();
                test.compare("seed " + seed + ", round " + round + ": ");
            }
        }
        Check.end();
    }

    private int between(int least, int most) {
        return least + random.nextInt(most - least + 1);
    }

    private void addSome(int things) {
        if (nodes.isEmpty()) {
            addNode();
            addNode();
        }
        for (int i = 0; i < things; i++) {
            addOne(random.nextInt(12));
        }
        for (int minute = seconds / 60; minute < seconds / 60 + 3; minute++) {
            int v = random.nextInt(3) == 0 ? 0 : between(0, 20_000);
            Check.same("rain", x.rain(minute, v), rains[minute]);
            rains[minute] = v;
        }
    }

    private void addOne(int kind) {
        int n = random.nextInt(nodes.size());
        int other = (n + 1 + random.nextInt(nodes.size() - 1)) % nodes.size();
        switch (kind) {
            case 0: case 1: addNode(); break;
            case 2: case 3: addArea(n); break;
            case 4: case 5: case 6: addPipe(n, other); break;
            case 7: addPump(n, other); break;
            case 8: addGate(n); break;
            case 9: addGully(n); break;
            default: addStreet(n); break;
        }
    }

    private void addNode() {
        int bottom = between(-2_000, 0);
        int ground = bottom + between(1, 2_000);
        int room = random.nextBoolean() ? between(1, 5) : between(1, 300);
        boolean fits = nodes.size() < 24;
        Check.same("node", x.node(ground, bottom, room), fits ? nodes.size() : -1);
        if (fits) {
            streets[nodes.size()] = -1;
            nodes.add(new long[] {ground, bottom, room});
            litres.add(BigInteger.ZERO);
            told.add(new long[2]);
        }
    }

    private void addArea(int n) {
        int squares = random.nextBoolean() ? between(1, 500) : between(1, 50_000);
        int loss = between(0, 1_000);
        boolean fits = areas.size() < 24;
        Check.same("area", x.area(n, squares, loss), fits ? areas.size() : -1);
        if (fits) {
            areaRests[areas.size()] = BigInteger.ZERO;
            areas.add(new long[] {n, squares, loss});
        }
    }

    private void addPipe(int n, int other) {
        int length = between(1, 3_000);
        int width = between(10, 600);
        boolean fits = pipes.size() < 40;
        Check.same("pipe", x.pipe(n, other, length, width), fits ? pipes.size() : -1);
        if (fits) {
            pipeRests[pipes.size()] = BigInteger.ZERO;
            flows.add(new long[2]);
            pipes.add(new long[] {n, other, length, width});
        }
    }

    private void addPump(int n, int other) {
        int off = (int) nodes.get(n)[1] + between(-5, 200);
        int start = off + between(1, 300);
        int rate = between(1, 200);
        boolean fits = pumps.size() < 8;
        Check.same("pump", x.pump(n, other, start, off, rate), fits ? pumps.size() : -1);
        if (fits) {
            pumps.add(new long[] {n, other, start, off, rate});
        }
    }

    private void addGate(int n) {
        int height = between(0, 1_500);
        int rate = between(1, 300);
        boolean fits = gates.size() < 8;
        Check.same("gate", x.gate(n, height, rate), fits ? gates.size() : -1);
        if (fits) {
            gates.add(new long[] {n, height, rate});
        }
    }

    private void addGully(int n) {
        int cell = between(0, 7);
        int rate = between(1, 400);
        boolean fits = gullies.size() < 8;
        Check.same("gully", x.gully(cell, n, rate), fits ? gullies.size() : -1);
        if (fits) {
            gullies.add(new long[] {cell, n, rate});
        }
    }

    private void addStreet(int n) {
        int cell = between(-1, 7);
        Check.same("street", x.street(n, cell), streets[n]);
        streets[n] = cell;
    }

    private void passSome() {
        int some = random.nextBoolean() ? between(1, 5) : between(1, 150);
        for (int i = 0; i < some; i++) {
            rainFalls();
            pipesCarry();
            pumpsLift();
            gatesLetOut();
            gulliesTake();
            nodesSpill();
            seconds++;
        }
        Check.same("run", x.run(some), seconds);
    }

    private BigInteger big(long value) {
        return BigInteger.valueOf(value);
    }

    private long level(int n) {
        // Rounded down by the remainder that is never below 0.
        BigInteger room = big(nodes.get(n)[2]);
        return nodes.get(n)[1] + litres.get(n).subtract(litres.get(n).mod(room)).divide(room).longValueExact();
    }

    private long full(int n) {
        return nodes.get(n)[2] * (nodes.get(n)[0] - nodes.get(n)[1]);
    }

    private void change(int n, long by) {
        litres.set(n, litres.get(n).add(big(by)));
        Check.same("litres below 0 in the model", litres.get(n).signum() >= 0, true);
    }

    private void rainFalls() {
        for (int i = 0; i < areas.size(); i++) {
            long[] a = areas.get(i);
            BigInteger grown = areaRests[i].add(big(a[1]).multiply(big(rains[seconds / 60])).multiply(big(1_000 - a[2])));
            BigInteger[] parts = grown.divideAndRemainder(big(60_000_000));
            areaRests[i] = parts[1];
            change((int) a[0], parts[0].longValueExact());
            rained += parts[0].longValueExact();
        }
    }

    private void pipesCarry() {
        long[] levels = new long[nodes.size()];
        for (int n = 0; n < levels.length; n++) {
            levels[n] = level(n);
        }
        for (int i = 0; i < pipes.size(); i++) {
            long[] p = pipes.get(i);
            long difference = levels[(int) p[0]] - levels[(int) p[1]];
            BigInteger grown = pipeRests[i].add(big(p[3]).pow(2).multiply(big(difference)));
            BigInteger[] parts = grown.abs().divideAndRemainder(big(1_000 * p[2]));
            pipeRests[i] = grown.signum() < 0 ? parts[1].negate() : parts[1];
            int giver = (int) (grown.signum() < 0 ? p[1] : p[0]);
            int taker = (int) (grown.signum() < 0 ? p[0] : p[1]);
            long moved = parts[0].min(litres.get(giver)).longValueExact();
            change(giver, -moved);
            change(taker, moved);
            flows.get(i)[0] = grown.signum() < 0 ? -moved : moved;
            flows.get(i)[1] += flows.get(i)[0];
        }
    }

    private void pumpsLift() {
        for (int i = 0; i < pumps.size(); i++) {
            long[] p = pumps.get(i);
            long level = level((int) p[0]);
            on[i] = level >= p[2] || (level > p[3] && on[i]);
            if (on[i]) {
                long moved = litres.get((int) p[0]).min(big(p[4])).longValueExact();
                change((int) p[0], -moved);
                change((int) p[1], moved);
            }
        }
    }

    private void gatesLetOut() {
        for (long[] g : gates) {
            int n = (int) g[0];
            long above = litres.get(n).longValueExact() - g[1] * nodes.get(n)[2];
            if (above > 0) {
                long gone = Math.min(above, g[2]);
                change(n, -gone);
                told.get(n)[1] += gone;
                out += gone;
            }
        }
    }

    private void gulliesTake() {
        for (long[] g : gullies) {
            int cell = (int) g[0];
            int n = (int) g[1];
            long space = full(n) - litres.get(n).longValueExact();
            if (space > 0) {
                long taken = Math.min(space, Math.min(g[2], cells[cell]));
                cells[cell] -= taken;
                change(n, taken);
            }
        }
    }

    private void nodesSpill() {
        for (int n = 0; n < nodes.size(); n++) {
            long more = litres.get(n).longValueExact() - full(n);
            if (more > 0) {
                change(n, -more);
                told.get(n)[0] += more;
                if (streets[n] >= 0) {
                    cells[streets[n]] += more;
                } else {
                    outside += more;
                }
            }
        }
    }

    private void compare(String where) {
        BigInteger inNodes = BigInteger.ZERO;
        for (int n = 0; n < nodes.size(); n++) {
            inNodes = inNodes.add(litres.get(n));
            Check.same(where + "told(" + n + ", 0)", x.told(n, 0), litres.get(n).longValueExact());
            Check.same(where + "told(" + n + ", 1)", x.told(n, 1), level(n));
            Check.same(where + "told(" + n + ", 2)", x.told(n, 2), told.get(n)[0]);
            Check.same(where + "told(" + n + ", 3)", x.told(n, 3), told.get(n)[1]);
        }
        for (int i = 0; i < pipes.size(); i++) {
            Check.same(where + "flow(" + i + ", 0)", x.flow(i, 0), flows.get(i)[0]);
            Check.same(where + "flow(" + i + ", 1)", x.flow(i, 1), flows.get(i)[1]);
            Check.same(where + "flow(" + i + ", 2)", x.flow(i, 2), pipeRests[i].longValueExact());
        }
        for (int i = 0; i < pumps.size(); i++) {
            Check.same(where + "pumps(" + i + ")", x.pumps(i), on[i] ? 1 : 0);
        }
        long inCells = 0;
        for (int cell = 0; cell < 8; cell++) {
            inCells += cells[cell];
            Check.same(where + "cell(" + cell + ")", x.cell(cell), cells[cell]);
        }
        long[] parts = {rained, inNodes.longValueExact(), inCells, out, outside};
        for (int part = 0; part < parts.length; part++) {
            Check.same(where + "litres(" + part + ")", x.litres(part), parts[part]);
        }
        Check.same(where + "keeps()", x.keeps(), true);
        int[] counts = {nodes.size(), pipes.size(), areas.size(), pumps.size(), gates.size(), gullies.size(), 0, 0, seconds};
        for (int what = 0; what < counts.length; what++) {
            Check.same(where + "count(" + what + ")", x.count(what), counts[what]);
        }
    }
}
