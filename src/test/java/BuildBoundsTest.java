import java.util.function.Supplier;
import java.util.function.ToLongFunction;

/** Each sentence of the promises 1 to 9 and 22 that names a bound: at it, just beyond it, and nothing changed. */
public final class BuildBoundsTest {
    private static final int NODES = 0;
    private static final int PIPES = 1;
    private static final int AREAS = 2;
    private static final int PUMPS = 3;
    private static final int GATES = 4;
    private static final int GULLIES = 5;

    public static void main(String[] args) {
        newObjectNodes();
        newObjectIsEmpty();
        nodeGround();
        nodeBottom();
        nodeBottomIsLower();
        nodeRoom();
        nodeIfThereAreN();
        pipeNodes();
        pipeToAnotherNode();
        pipeLength();
        pipeWidth();
        pipeAtMost40();
        areaNode();
        areaSquares();
        areaLoss();
        areaAtMost24();
        rainMinute();
        rainBecomes();
        pumpNodes();
        pumpToAnotherNode();
        pumpOnAboveOff();
        pumpRate();
        pumpAtMost8();
        gateNode();
        gateHeight();
        gateRate();
        gateAtMost8();
        gullyCell();
        gullyNode();
        gullyRate();
        gullyAtMost8();
        streetNode();
        streetCell();
        streetOfNone();
        countOfEach();
        countOfNoneSuch();
        withoutNodes();
        Check.end();
    }

    private static Supplier<StormPipes> busy() {
        return Bounds::busy;
    }

    private static StormPipes full(int asked, int nodes) {
        StormPipes x = new StormPipes(asked);
        for (int i = 0; i < nodes; i++) {
            x.node(i, -i - 1, i + 1);
        }
        return x;
    }

    // Promise 1: "n is nodes (1 if less, 24 if more)."
    private static void newObjectNodes() {
        int[][] limits = {
            {Bounds.MIN, 1}, {-24, 1}, {-1, 1}, {0, 1}, {1, 1}, {2, 2}, {3, 3}, {22, 22}, {23, 23}, {24, 24}, {25, 24},
            {26, 24}, {Bounds.MAX, 24}};
        for (int[] limit : limits) {
            String what = "StormPipes(" + limit[0] + ").node";
            Bounds.addsAtMost(what, () -> new StormPipes(limit[0]), NODES, limit[1], x -> x.node(9, 0, 4));
        }
    }

    // "LITRES (0 at first)", and nothing is there yet.
    private static void newObjectIsEmpty() {
        int[] asked = {Bounds.MIN, 0, 1, 24, 25, Bounds.MAX};
        for (int nodes : asked) {
            StormPipes x = new StormPipes(nodes);
            String due = "count0=0 count1=0 count2=0 count3=0 count4=0 count5=0 count6=0 count7=0 count8=0 "
                + "cell0=0 cell1=0 cell2=0 cell3=0 cell4=0 cell5=0 cell6=0 cell7=0 "
                + "litres0=0 litres1=0 litres2=0 litres3=0 litres4=0 keeps=1 ";
            Check.same("new StormPipes(" + nodes + ")", Picture.now(x), due);
            Check.same("first node", x.node(5, -5, 1), 0);
            long[] told = {0, -5, 0, 0};
            for (int what = 0; what <= 3; what++) {
                Check.same("new node: told " + what, x.told(0, what), told[what]);
            }
            Check.same("new node: street", x.street(0, -1), -1);
        }
    }

    // Promise 2: "Ground, bottom - 100,000 .. 100,000, the bottom lower": the lowest ground has a bottom below it.
    private static void nodeGround() {
        Bounds.adds("node's ground", busy(), NODES, -99_999, 100_000, (x, v) -> x.node(v, -100_000, 1));
        Bounds.isBad("ground and bottom below", busy(), x -> x.node(-100_000, -100_001, 1));
        Bounds.isBad("ground and bottom below", busy(), x -> x.node(-100_001, -100_002, 1));
        StormPipes x = new StormPipes(2);
        x.node(100_000, 0, 1);
        x.node(-99_999, -100_000, 1);
        Bounds.rainLitres(x, 0, 10_000);
        Bounds.rainLitres(x, 1, 2);
        x.run(11);
        Check.same("full at the highest ground", x.told(0, 0), 100_000);
        Check.same("full at the highest ground", x.told(0, 1), 100_000);
        Check.same("full at the lowest ground", x.told(1, 0), 1);
        Check.same("full at the lowest ground", x.told(1, 1), -99_999);
    }

    private static void nodeBottom() {
        Bounds.adds("node's bottom", busy(), NODES, -100_000, 99_999, (x, v) -> x.node(100_000, v, 1));
        Bounds.isBad("ground and bottom above", busy(), x -> x.node(100_001, 100_000, 1));
        Bounds.isBad("ground and bottom above", busy(), x -> x.node(100_002, 100_001, 1));
        int[] bottoms = {-100_000, -99_999, 99_998, 99_999};
        for (int bottom : bottoms) {
            StormPipes x = new StormPipes(1);
            x.node(100_000, bottom, 1);
            Check.same("bottom " + bottom, x.told(0, 1), bottom);
        }
    }

    private static void nodeBottomIsLower() {
        int[] grounds = {-99_999, -1, 0, 1, 7, 99_999, 100_000};
        for (int ground : grounds) {
            StormPipes x = new StormPipes(1);
            Check.same("bottom just lower than " + ground, x.node(ground, ground - 1, 1), 0);
            Bounds.isBad("bottom as high as " + ground, busy(), y -> y.node(ground, ground, 1));
            Bounds.isBad("bottom above " + ground, busy(), y -> y.node(ground, ground + 1, 1));
        }
    }

    private static void nodeRoom() {
        Bounds.adds("node's room", busy(), NODES, 1, 100_000, (x, v) -> x.node(1, 0, v));
        int[] rooms = {1, 2, 99_999, 100_000};
        for (int room : rooms) {
            StormPipes x = new StormPipes(1);
            x.node(3, 0, room);
            Bounds.rainLitres(x, 0, room == 1 ? 2 : 10_000);
            x.run(40);
            Check.same("full with room " + room, x.told(0, 0), 3L * room);
        }
    }

    // "BAD: also if there are n."
    private static void nodeIfThereAreN() {
        int[] sizes = {1, 2, 23, 24};
        for (int n : sizes) {
            Bounds.isBad("node if there are " + n, () -> full(n, n), x -> x.node(1, 0, 1));
            StormPipes x = full(n, n - 1);
            Check.same("node if there is one less than " + n, x.node(1, 0, 1), n - 1);
            Check.same("node if there are " + n, x.node(1, 0, 1), -1);
            Check.same("nodes", x.count(0), n);
        }
        // A wrong node takes no room.
        StormPipes x = full(2, 1);
        x.node(0, 0, 1);
        x.node(1, 0, 0);
        Check.same("last node behind wrong ones", x.node(1, 0, 1), 1);
    }

    // Promise 3: no such node; a node that comes later is none such before.
    private static void pipeNodes() {
        Bounds.adds("pipe's from", busy(), PIPES, 0, 2, (x, v) -> x.pipe(v, v == 0 ? 1 : 0, 5, 50));
        Bounds.adds("pipe's to", busy(), PIPES, 0, 2, (x, v) -> x.pipe(v == 0 ? 1 : 0, v, 5, 50));
        StormPipes x = Bounds.busy();
        x.node(1, 0, 1);
        Check.same("pipe to a node that came", x.pipe(0, 3, 5, 50), 2);
        Check.same("pipe from a node that came", x.pipe(3, 0, 5, 50), 3);
        Check.same("a like pipe", x.pipe(3, 0, 5, 50), 4);
    }

    // "PIPES go from a node to another one".
    private static void pipeToAnotherNode() {
        for (int node = 0; node <= 2; node++) {
            int same = node;
            Bounds.isBad("pipe from " + node + " to it", busy(), x -> x.pipe(same, same, 5, 50));
        }
    }

    private static void pipeLength() {
        Bounds.adds("pipe's length", busy(), PIPES, 1, 10_000, (x, v) -> x.pipe(0, 1, v, 10));
        // 1,000 x 1,000 x 100 by 1,000 x the length.
        int[][] moved = {{1, 100_000}, {2, 50_000}, {9_999, 10}, {10_000, 10}};
        for (int[] m : moved) {
            StormPipes x = pipeBetween(m[0], 1_000, 100, 1_000);
            Check.same("moved by a length of " + m[0], x.flow(0, 0), m[1]);
        }
        Check.same("rest of a length of 9,999", pipeBetween(9_999, 1_000, 100, 1_000).flow(0, 2), 10_000);
        Check.same("rest of a length of 10,000", pipeBetween(10_000, 1_000, 100, 1_000).flow(0, 2), 0);
    }

    private static void pipeWidth() {
        Bounds.adds("pipe's width", busy(), PIPES, 10, 3_000, (x, v) -> x.pipe(0, 1, 10, v));
        // The width's square times 100 by 1,000 x 1.
        int[][] moved = {{10, 10}, {11, 12}, {2_999, 899_400}, {3_000, 900_000}};
        for (int[] m : moved) {
            StormPipes x = pipeBetween(1, m[0], 100, 10_000);
            Check.same("moved by a width of " + m[0], x.flow(0, 0), m[1]);
        }
    }

    /** A second of a pipe from a node with so high a level to an empty one. */
    private static StormPipes pipeBetween(int length, int width, int level, int room) {
        StormPipes x = new StormPipes(2);
        x.node(100_000, 0, room);
        x.node(100_000, 0, room);
        x.pipe(0, 1, length, width);
        // 1,000,000 squares at 6,000: 100,000 litres a second.
        for (int i = 0; i < (long) level * room / 100_000; i++) {
            x.area(0, 1_000_000, 0);
        }
        x.rain(0, 6_000);
        x.run(1);
        return x;
    }

    private static void pipeAtMost40() {
        Bounds.addsAtMost("pipe", busy(), PIPES, 40, x -> x.pipe(2, 0, 40, 60));
    }

    // Promise 4.
    private static void areaNode() {
        Bounds.adds("area's node", busy(), AREAS, 0, 2, (x, v) -> x.area(v, 50, 5));
        StormPipes x = Bounds.busy();
        x.node(1, 0, 1);
        Check.same("area at a node that came", x.area(3, 50, 5), 2);
        Check.same("a like area", x.area(3, 50, 5), 3);
    }

    private static void areaSquares() {
        Bounds.adds("area's squares", busy(), AREAS, 1, 1_000_000, (x, v) -> x.area(0, v, 5));
        // Squares x 20,000 x 1,000 by 60,000,000, in three seconds: as many litres as squares.
        int[] squares = {1, 2, 999_999, 1_000_000};
        for (int s : squares) {
            Check.same("rained on " + s, rainedInThreeSeconds(s, 0), s);
        }
    }

    private static void areaLoss() {
        Bounds.adds("area's loss", busy(), AREAS, 0, 1_000, (x, v) -> x.area(0, 50, v));
        int[][] rained = {{0, 1_000_000}, {1, 999_000}, {999, 1_000}, {1_000, 0}};
        for (int[] r : rained) {
            Check.same("rained with a loss of " + r[0], rainedInThreeSeconds(1_000_000, r[0]), r[1]);
        }
    }

    private static long rainedInThreeSeconds(int squares, int loss) {
        StormPipes x = new StormPipes(1);
        x.node(100_000, 0, 100_000);
        x.area(0, squares, loss);
        x.rain(0, 20_000);
        x.run(3);
        return x.litres(0);
    }

    private static void areaAtMost24() {
        Bounds.addsAtMost("area", busy(), AREAS, 24, x -> x.area(2, 500, 20));
    }

    // Promise 5: "The rain of a minute (0 .. 1,439)".
    private static void rainMinute() {
        for (int minute : Bounds.within(0, 1_439)) {
            StormPipes x = new StormPipes(1);
            Check.same("rain of minute " + minute, x.rain(minute, 77), 0);
            Check.same("rain of minute " + minute, x.rain(minute, 78), 77);
            for (int other : Bounds.within(0, 1_439)) {
                Check.same("rain of another minute", x.rain(other, 3), other == minute ? 78 : 0);
            }
        }
        Bounds.refusesBeyond("rain's minute", busy(), 0, 1_439, (x, v) -> x.rain(v, 9), -1);
    }

    // "becomes 0 .. 20,000: what it was."
    private static void rainBecomes() {
        for (int v : Bounds.within(0, 20_000)) {
            StormPipes x = new StormPipes(1);
            x.rain(5, 444);
            Check.same("rain becomes " + v, x.rain(5, v), 444);
            Check.same("rain became " + v, x.rain(5, 1), v);
        }
        Bounds.refusesBeyond("rain", busy(), 0, 20_000, (x, v) -> x.rain(1, v), -1);
        Bounds.refusesBeyond("rain of the last minute", busy(), 0, 20_000, (x, v) -> x.rain(1_439, v), -1);
    }

    // Promise 6.
    private static void pumpNodes() {
        Bounds.adds("pump's node", busy(), PUMPS, 0, 2, (x, v) -> x.pump(v, v == 0 ? 1 : 0, 5, 4, 3));
        Bounds.adds("pump's other node", busy(), PUMPS, 0, 2, (x, v) -> x.pump(v == 0 ? 1 : 0, v, 5, 4, 3));
        StormPipes x = Bounds.busy();
        x.node(1, 0, 1);
        Check.same("pump to a node that came", x.pump(0, 3, 5, 4, 3), 2);
        Check.same("pump at a node that came", x.pump(3, 0, 5, 4, 3), 3);
        Check.same("a like pump", x.pump(3, 0, 5, 4, 3), 4);
    }

    // "to another node".
    private static void pumpToAnotherNode() {
        for (int node = 0; node <= 2; node++) {
            int same = node;
            Bounds.isBad("pump from " + node + " to it", busy(), x -> x.pump(same, same, 5, 4, 3));
        }
    }

    // "On above off (both levels)": no range is told for them.
    private static void pumpOnAboveOff() {
        int[] offs = {Bounds.MIN, -100_001, -100_000, -1_500, -1, 0, 1, 99_999, 100_000, Bounds.MAX - 1};
        for (int off : offs) {
            StormPipes x = Bounds.busy();
            Check.same("on just above off " + off, x.pump(0, 1, off + 1, off, 3), 2);
            Check.same("off at first", x.pumps(2), 0);
            Bounds.isBad("on as off " + off, busy(), y -> y.pump(0, 1, off, off, 3));
        }
        int[] ons = {Bounds.MIN, -1_501, -1, 0, Bounds.MAX - 1};
        for (int on : ons) {
            Bounds.isBad("on just below off", busy(), x -> x.pump(0, 1, on, on + 1, 3));
        }
        Bounds.isBad("on far below off", busy(), x -> x.pump(0, 1, Bounds.MIN, Bounds.MAX, 3));
        Check.same("on far above off", Bounds.busy().pump(0, 1, Bounds.MAX, Bounds.MIN, 3), 2);
    }

    private static void pumpRate() {
        Bounds.adds("pump's rate", busy(), PUMPS, 1, 100_000, (x, v) -> x.pump(0, 1, 5, 4, v));
        for (int rate : Bounds.within(1, 100_000)) {
            StormPipes x = new StormPipes(2);
            x.node(100_000, 0, 100);
            x.node(100_000, 0, 100);
            x.pump(0, 1, 0, -1, rate);
            x.area(0, 1_000_000, 0);
            x.rain(0, 20_000);
            x.run(1);
            Check.same("moved by a pump's rate", x.told(1, 0), rate);
        }
    }

    private static void pumpAtMost8() {
        Bounds.addsAtMost("pump", busy(), PUMPS, 8, x -> x.pump(0, 1, -995, -999, 1));
    }

    // Promise 7.
    private static void gateNode() {
        Bounds.adds("gate's node", busy(), GATES, 0, 2, (x, v) -> x.gate(v, 3, 3));
        StormPipes x = Bounds.busy();
        x.node(1, 0, 1);
        Check.same("gate at a node that came", x.gate(3, 3, 3), 2);
        Check.same("a like gate", x.gate(3, 3, 3), 3);
    }

    private static void gateHeight() {
        Bounds.adds("gate's height", busy(), GATES, 0, 200_000, (x, v) -> x.gate(0, v, 3));
        for (int height : Bounds.within(0, 200_000)) {
            StormPipes x = new StormPipes(1);
            x.node(100_000, -100_000, 1);
            x.gate(0, height, 1_000_000);
            x.area(0, 1_000_000, 0);
            x.rain(0, 12_300);
            x.run(1);
            // 205,000 litres come, and the gate goes before what is more than full.
            Check.same("out above " + height, x.told(0, 3), 205_000 - height);
        }
    }

    private static void gateRate() {
        Bounds.adds("gate's rate", busy(), GATES, 1, 1_000_000, (x, v) -> x.gate(0, 3, v));
        for (int rate : Bounds.within(1, 1_000_000)) {
            StormPipes x = new StormPipes(1);
            x.node(100_000, 0, 100);
            x.gate(0, 0, rate);
            for (int i = 0; i < 4; i++) {
                x.area(0, 1_000_000, 0);
            }
            x.rain(0, 20_000);
            x.run(1);
            Check.same("out by a gate's rate", x.litres(3), rate);
        }
    }

    private static void gateAtMost8() {
        Bounds.addsAtMost("gate", busy(), GATES, 8, x -> x.gate(0, 2, 1));
    }

    // Promise 8: "CELLS 0 .. 7".
    private static void gullyCell() {
        Bounds.adds("gully's cell", busy(), GULLIES, 0, 7, (x, v) -> x.gully(v, 0, 3));
    }

    private static void gullyNode() {
        Bounds.adds("gully's node", busy(), GULLIES, 0, 2, (x, v) -> x.gully(3, v, 3));
        StormPipes x = Bounds.busy();
        x.node(1, 0, 1);
        Check.same("gully to a node that came", x.gully(3, 3, 3), 2);
        Check.same("a like gully", x.gully(3, 3, 3), 3);
    }

    private static void gullyRate() {
        Bounds.adds("gully's rate", busy(), GULLIES, 1, 100_000, (x, v) -> x.gully(4, 0, v));
        for (int rate : Bounds.within(1, 100_000)) {
            StormPipes x = new StormPipes(2);
            x.node(1, 0, 1);
            x.node(100_000, 0, 100);
            x.street(0, 2);
            x.area(0, 1_000_000, 0);
            x.rain(0, 20_000);
            x.run(1);
            x.gully(2, 1, rate);
            x.run(1);
            Check.same("moved by a gully's rate", x.told(1, 0), rate);
        }
    }

    private static void gullyAtMost8() {
        Bounds.addsAtMost("gully", busy(), GULLIES, 8, x -> x.gully(4, 1, 1));
    }

    // Promise 9: "- 2: no such node or cell."
    private static void streetNode() {
        for (int node = 0; node <= 2; node++) {
            StormPipes x = Bounds.busy();
            int[] before = {5, -1, 4};
            Check.same("street of " + node, x.street(node, 6), before[node]);
            Check.same("street of " + node, x.street(node, 6), 6);
        }
        Bounds.refusesBeyond("street's node", busy(), 0, 2, (x, v) -> x.street(v, 3), -2);
        Bounds.refusesBeyond("street's node", busy(), 0, 2, (x, v) -> x.street(v, -1), -2);
        StormPipes x = Bounds.busy();
        x.node(1, 0, 1);
        Check.same("street of a node that came", x.street(3, 0), -1);
    }

    private static void streetCell() {
        StormPipes x = Bounds.busy();
        int before = -1;
        for (int cell = -1; cell <= 7; cell++) {
            Check.same("street before " + cell, x.street(1, cell), before);
            before = cell;
        }
        Check.same("street before none", x.street(1, -1), 7);
        for (int node = 0; node <= 2; node++) {
            int asked = node;
            Bounds.refusesBeyond("street's cell", busy(), -1, 7, (y, v) -> y.street(asked, v), -2);
        }
    }

    // "or none (- 1)": what is more than full goes outside again.
    private static void streetOfNone() {
        StormPipes x = new StormPipes(1);
        x.node(1, 0, 1);
        Bounds.rainLitres(x, 0, 5);
        x.run(1);
        Check.same("outside without a street", x.litres(4), 4);
        for (int cell = 0; cell <= 7; cell++) {
            x.street(0, cell);
            x.run(1);
            Check.same("into cell " + cell, x.cell(cell), 5);
            Check.same("into cells", x.litres(2), 5 * (cell + 1));
        }
        Check.same("outside as before", x.litres(4), 4);
        Check.same("no street any more", x.street(0, -1), 7);
        x.run(1);
        Check.same("outside again", x.litres(4), 9);
        Check.same("into cells as before", x.litres(2), 40);
    }

    // Promise 22, at none and at the most of each.
    private static void countOfEach() {
        StormPipes x = Bounds.busy();
        int[] due = {3, 2, 2, 2, 2, 2, 2, 2, 30};
        for (int what = 0; what <= 8; what++) {
            int asked = what;
            Bounds.changesNothing("count(" + what + ")", busy(), y -> y.count(asked), due[what]);
        }
        countsUp(x, NODES, 5, y -> y.node(1, 0, 1));
        countsUp(x, PIPES, 40, y -> y.pipe(0, 1, 1, 10));
        countsUp(x, AREAS, 24, y -> y.area(0, 1, 0));
        countsUp(x, PUMPS, 8, y -> y.pump(0, 1, 1, 0, 1));
        countsUp(x, GATES, 8, y -> y.gate(0, 1, 1));
        countsUp(x, GULLIES, 8, y -> y.gully(0, 1, 1));
        countsUp(x, 6, 6, y -> y.list(200 + y.count(6), 1));
        countsUp(x, 7, 10, y -> y.piece(0, 1, 1));
    }

    private static void countsUp(StormPipes x, int kind, int most, ToLongFunction<StormPipes> call) {
        int[] before = counts(x);
        while (before[kind] < most) {
            call.applyAsLong(x);
            before[kind]++;
            Check.same("count(" + kind + ")", x.count(kind), before[kind]);
        }
        call.applyAsLong(x);
        int[] behind = counts(x);
        for (int what = 0; what <= 8; what++) {
            Check.same("count(" + what + ") behind all of kind " + kind, behind[what], before[what]);
        }
    }

    private static int[] counts(StormPipes x) {
        int[] counts = new int[9];
        for (int what = 0; what <= 8; what++) {
            counts[what] = x.count(what);
        }
        return counts;
    }

    private static void countOfNoneSuch() {
        Bounds.refusesBeyond("count", busy(), 0, 8, (x, v) -> x.count(v), -1);
    }

    // There is none such: without nodes nothing can lie at one.
    private static void withoutNodes() {
        Supplier<StormPipes> empty = () -> new StormPipes(3);
        Bounds.isBad("pipe without nodes", empty, x -> x.pipe(0, 1, 1, 10));
        Bounds.isBad("area without nodes", empty, x -> x.area(0, 1, 0));
        Bounds.isBad("pump without nodes", empty, x -> x.pump(0, 1, 1, 0, 1));
        Bounds.isBad("gate without nodes", empty, x -> x.gate(0, 1, 1));
        Bounds.isBad("gully without nodes", empty, x -> x.gully(0, 0, 1));
        Bounds.changesNothing("street without nodes", empty, x -> x.street(0, 0), -2);
        Supplier<StormPipes> single = () -> full(1, 1);
        Bounds.isBad("pipe with a single node", single, x -> x.pipe(0, 1, 1, 10));
        Bounds.isBad("pipe with a single node", single, x -> x.pipe(1, 0, 1, 10));
        Bounds.isBad("pump with a single node", single, x -> x.pump(0, 1, 1, 0, 1));
        Bounds.isBad("pump with a single node", single, x -> x.pump(1, 0, 1, 0, 1));
    }
}
