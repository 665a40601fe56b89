/** Promises 10 to 16: what a second does, in its order, and what is told of it. */
public final class RunTest {
    private static final long NOT_TOLD = -1_099_511_627_776L;
    private static final long NO_FLOW = -1_152_921_504_606_846_976L;
    private static final int MIN = Integer.MIN_VALUE;
    private static final int MAX = Integer.MAX_VALUE;

    public static void main(String[] args) {
        promise10Limits();
        promise10Minutes();
        promise10AreaRests();
        promise11();
        promise12();
        promise12LevelsBehindRain();
        promise12GiverIsEmpty();
        promise13And10Gullies();
        promise14();
        promise14PumpsInTheirOrder();
        promise11Gates();
        promise15And16();
        greatNumbers();
        Check.end();
    }

    /** So many litres come to a node each second of minute 0. */
    private static void rainLitres(StormPipes x, int node, int litres) {
        // 60 squares at 1,000 thousandths a minute, and no loss: a litre a second.
        x.area(node, 60 * litres, 0);
        x.rain(0, 1_000);
    }

    private static void promise10Limits() {
        StormPipes x = new StormPipes(1);
        int[] wrong = {0, -1, 601, MIN, MAX};
        for (int seconds : wrong) {
            Check.same("run(" + seconds + ")", x.run(seconds), -1);
        }
        Check.same("run(1)", x.run(1), 1);
        Check.same("run(600)", x.run(600), 601);
        for (int i = 0; i < 142; i++) {
            x.run(600);
        }
        Check.same("seconds", x.count(8), 85_801);
        Check.same("one too many", x.run(600), -1);
        Check.same("nothing changed", x.count(8), 85_801);
        Check.same("to the end", x.run(599), 86_400);
        Check.same("behind the end", x.run(1), -1);
        Check.same("nothing changed", x.count(8), 86_400);
    }

    private static void promise10Minutes() {
        StormPipes x = new StormPipes(1);
        x.node(100_000, 0, 100);
        x.area(0, 60, 0);
        x.rain(1, 1_000);
        x.rain(1_439, 2_000);
        x.run(60);
        Check.same("no rain in minute 0", x.litres(0), 0);
        x.run(1);
        Check.same("rain of minute 1 from its first second", x.litres(0), 1);
        x.run(58);
        Check.same("rain of minute 1", x.litres(0), 59);
        x.run(1);
        Check.same("rain of minute 1 to its last second", x.litres(0), 60);
        x.run(1);
        Check.same("no rain in minute 2", x.litres(0), 60);
        for (int i = 0; i < 143; i++) {
            x.run(600);
        }
        Check.same("to the last minute", x.run(419), 86_340);
        Check.same("no rain before the last minute", x.litres(0), 60);
        x.run(60);
        Check.same("rain of the last minute", x.litres(0), 180);
    }

    private static void promise10AreaRests() {
        StormPipes x = new StormPipes(1);
        x.node(1_000, 0, 1);
        // 7 x 1,000 x 900 = 6,300,000 a second: 9 seconds are 56,700,000, the tenth makes a litre.
        x.area(0, 7, 100);
        x.rain(0, 1_000);
        x.run(9);
        Check.same("not yet a litre", x.told(0, 0), 0);
        x.run(1);
        Check.same("a litre", x.told(0, 0), 1);
        // The rest is 3,000,000: 9 seconds more are 59,700,000.
        x.run(9);
        Check.same("not yet two", x.told(0, 0), 1);
        x.run(1);
        Check.same("two", x.told(0, 0), 2);
        StormPipes lost = new StormPipes(1);
        lost.node(1_000, 0, 1);
        lost.area(0, 1_000_000, 1_000);
        lost.rain(0, 20_000);
        lost.run(60);
        Check.same("all is lost", lost.litres(0), 0);
    }

    private static void promise11() {
        StormPipes x = new StormPipes(2);
        x.node(10, -10, 7);
        x.node(5, 4, 1);
        rainLitres(x, 0, 13);
        int[] wrongNodes = {-1, 2, MIN, MAX};
        for (int node : wrongNodes) {
            Check.same("told(" + node + ", 0)", x.told(node, 0), NOT_TOLD);
        }
        int[] wrongWhats = {-1, 4, MIN, MAX};
        for (int what : wrongWhats) {
            Check.same("told(0, " + what + ")", x.told(0, what), NOT_TOLD);
        }
        x.run(1);
        Check.same("litres", x.told(0, 0), 13);
        Check.same("level, rounded down", x.told(0, 1), -9);
        x.run(1);
        Check.same("level", x.told(0, 1), -7);
        x.run(8);
        Check.same("not yet full", x.told(0, 0), 130);
        Check.same("nothing more than full", x.told(0, 2), 0);
        x.run(1);
        Check.same("full", x.told(0, 0), 140);
        Check.same("level is the ground", x.told(0, 1), 10);
        Check.same("more than full", x.told(0, 2), 3);
        Check.same("outside", x.litres(4), 3);
        x.street(0, 5);
        x.run(2);
        Check.same("more than full so far", x.told(0, 2), 29);
        Check.same("into the street", x.cell(5), 26);
        Check.same("outside stays", x.litres(4), 3);
        Check.same("other node", x.told(1, 0), 0);
    }

    private static void promise12() {
        StormPipes x = new StormPipes(2);
        x.node(1_000, 0, 1);
        x.node(1_000, 0, 1);
        // 10 x 10 x difference by 1,000 x 1: a litre for each 10 millimetres.
        x.pipe(1, 0, 1, 10);
        Check.same("nothing yet", x.flow(0, 0), 0);
        int[] wrong = {-1, 1, MIN, MAX};
        for (int pipe : wrong) {
            Check.same("flow(" + pipe + ", 0)", x.flow(pipe, 0), NO_FLOW);
        }
        int[] wrongWhats = {-1, 3, MIN, MAX};
        for (int what : wrongWhats) {
            Check.same("flow(0, " + what + ")", x.flow(0, what), NO_FLOW);
        }
        rainLitres(x, 0, 25);
        x.run(1);
        // The difference is -25: -2,500 is -2, and -500 is left.
        Check.same("from the end to the beginning", x.flow(0, 0), -2);
        Check.same("in all", x.flow(0, 1), -2);
        Check.same("rest with its sign", x.flow(0, 2), -500);
        Check.same("giver", x.told(0, 0), 23);
        Check.same("taker", x.told(1, 0), 2);
        x.run(1);
        // 48 against 2: -500 - 4,600 = -5,100.
        Check.same("with the rest", x.flow(0, 0), -5);
        Check.same("in all", x.flow(0, 1), -7);
        Check.same("rest", x.flow(0, 2), -100);
        x.rain(0, 0);
        x.run(100);
        Check.same("levels meet", x.told(0, 0) - x.told(1, 0) <= 10, true);
        Check.same("nothing is lost", x.told(0, 0) + x.told(1, 0), 50);
    }

    private static void promise12LevelsBehindRain() {
        StormPipes x = new StormPipes(3);
        for (int i = 0; i < 3; i++) {
            x.node(1_000, 0, 1);
        }
        x.pipe(0, 1, 1, 10);
        x.pipe(1, 2, 1, 10);
        rainLitres(x, 0, 100);
        x.run(1);
        // The second pipe does not yet see what the first one brought.
        Check.same("first pipe", x.flow(0, 0), 10);
        Check.same("second pipe", x.flow(1, 0), 0);
        Check.same("second pipe's rest", x.flow(1, 2), 0);
        x.run(1);
        Check.same("first pipe", x.flow(0, 0), 18);
        Check.same("second pipe", x.flow(1, 0), 1);
    }

    private static void promise12GiverIsEmpty() {
        StormPipes x = new StormPipes(3);
        x.node(1_000, 0, 1);
        x.node(1_000, 0, 1);
        x.node(1_000, 0, 1);
        // 100 x 100 x 50 by 1,000 x 3: 166 wanted, 2,000 left; 50 are there.
        x.pipe(0, 1, 3, 100);
        x.pipe(0, 2, 3, 100);
        rainLitres(x, 0, 50);
        x.run(1);
        Check.same("all that it has", x.flow(0, 0), 50);
        Check.same("rest is of what was wanted", x.flow(0, 2), 2_000);
        Check.same("nothing is left for the second one", x.flow(1, 0), 0);
        Check.same("its rest grows too", x.flow(1, 2), 2_000);
        Check.same("empty", x.told(0, 0), 0);
        x.rain(0, 0);
        x.run(1);
        // Pipe 0: 2,000 - 500,000 = -498,000: -166 wanted, 50 there. Pipe 1: levels are 0 and 0.
        Check.same("back", x.flow(0, 0), -50);
        Check.same("back, in all", x.flow(0, 1), 0);
        Check.same("rest", x.flow(0, 2), 0);
        Check.same("not moved in the last second", x.flow(1, 0), 0);
        Check.same("rest stays", x.flow(1, 2), 2_000);
    }

    private static void promise13And10Gullies() {
        StormPipes x = new StormPipes(2);
        x.node(10, 0, 1);
        x.node(10, 0, 1);
        int[] wrong = {-1, 8, MIN, MAX};
        for (int cell : wrong) {
            Check.same("cell(" + cell + ")", x.cell(cell), -1);
        }
        x.street(0, 7);
        rainLitres(x, 0, 40);
        x.run(1);
        Check.same("in the cell", x.cell(7), 30);
        x.rain(0, 0);
        x.gully(7, 1, 4);
        x.gully(7, 1, 3);
        x.gully(6, 1, 3);
        x.run(1);
        Check.same("gullies take", x.cell(7), 23);
        Check.same("gullies give", x.told(1, 0), 7);
        x.run(1);
        Check.same("not more than until it is full", x.told(1, 0), 10);
        Check.same("the rest stays", x.cell(7), 20);
        Check.same("nothing more than full", x.told(1, 2), 0);
        x.gully(7, 0, 100_000);
        x.run(1);
        Check.same("nothing goes into a full node", x.cell(7), 20);
        x.gate(0, 0, 10);
        x.gate(1, 0, 10);
        x.run(1);
        // Gates come before gullies: both nodes are empty, 4 and 3 go to node 1, 10 to node 0.
        Check.same("gates before gullies", x.cell(7), 3);
        Check.same("node 1", x.told(1, 0), 7);
        Check.same("node 0", x.told(0, 0), 10);
        x.run(1);
        Check.same("what the cell has", x.cell(7), 0);
        Check.same("node 1", x.told(1, 0), 3);
        Check.same("node 0", x.told(0, 0), 0);
        overfullNodeTakesNothing();
    }

    private static void overfullNodeTakesNothing() {
        StormPipes x = new StormPipes(1);
        x.node(10, 0, 1);
        x.street(0, 0);
        x.gully(0, 0, 100);
        rainLitres(x, 0, 15);
        x.run(1);
        Check.same("cell", x.cell(0), 5);
        x.run(1);
        // The node has 25 when the gully comes: nothing moves, neither way.
        Check.same("cell", x.cell(0), 20);
        Check.same("more than full", x.told(0, 2), 20);
    }

    private static void promise14() {
        StormPipes x = new StormPipes(2);
        x.node(1_000, 0, 1);
        x.node(1_000, 0, 1);
        x.pump(0, 1, 30, 10, 7);
        int[] wrong = {-1, 1, MIN, MAX};
        for (int pump : wrong) {
            Check.same("pumps(" + pump + ")", x.pumps(pump), -1);
        }
        rainLitres(x, 0, 10);
        x.run(2);
        Check.same("off below on", x.pumps(0), 0);
        Check.same("nothing moved", x.told(1, 0), 0);
        x.run(1);
        Check.same("on at on", x.pumps(0), 1);
        Check.same("moved", x.told(1, 0), 7);
        x.rain(0, 0);
        x.run(1);
        Check.same("stays on between", x.pumps(0), 1);
        Check.same("moved", x.told(0, 0), 16);
        x.run(1);
        Check.same("moved to below off", x.told(0, 0), 9);
        Check.same("still on", x.pumps(0), 1);
        x.run(1);
        Check.same("off at off", x.pumps(0), 0);
        Check.same("stays", x.told(0, 0), 9);
        x.rain(0, 1_000);
        x.run(1);
        Check.same("stays off between", x.pumps(0), 0);
        Check.same("stays", x.told(0, 0), 19);
        atOffIsOff();
        atMostWhatIsThere();
    }

    private static void atOffIsOff() {
        StormPipes x = new StormPipes(2);
        x.node(1_000, 0, 1);
        x.node(1_000, 0, 1);
        x.pump(0, 1, 20, 10, 10);
        rainLitres(x, 0, 20);
        x.run(1);
        Check.same("on", x.pumps(0), 1);
        x.rain(0, 0);
        x.run(1);
        Check.same("a level of off is off", x.pumps(0), 0);
        Check.same("nothing moved", x.told(0, 0), 10);
    }

    private static void atMostWhatIsThere() {
        StormPipes x = new StormPipes(2);
        x.node(1_000, 0, 1);
        x.node(1_000, 0, 1);
        x.pump(0, 1, -5, -6, 10);
        x.run(1);
        Check.same("on without water", x.pumps(0), 1);
        rainLitres(x, 0, 4);
        x.run(1);
        Check.same("all there is", x.told(1, 0), 4);
        Check.same("nothing is left", x.told(0, 0), 0);
    }

    private static void promise14PumpsInTheirOrder() {
        StormPipes x = new StormPipes(3);
        for (int i = 0; i < 3; i++) {
            x.node(1_000, 0, 1);
        }
        x.pump(0, 1, 20, 0, 8);
        x.pump(1, 2, 8, 0, 5);
        x.pump(0, 2, 20, 0, 8);
        rainLitres(x, 0, 25);
        x.run(1);
        // The second pump sees what the first one brought, the third one what it left: 17.
        Check.same("first", x.pumps(0), 1);
        Check.same("second", x.pumps(1), 1);
        Check.same("third", x.pumps(2), 0);
        Check.same("node 0", x.told(0, 0), 17);
        Check.same("node 1", x.told(1, 0), 3);
        Check.same("node 2", x.told(2, 0), 5);
    }

    private static void promise11Gates() {
        StormPipes x = new StormPipes(1);
        x.node(100, 50, 3);
        x.gate(0, 5, 4);
        x.gate(0, 4, 100);
        rainLitres(x, 0, 15);
        x.run(1);
        // Nothing is above 5 x 3 litres; 3 are above 4 x 3.
        Check.same("by gates", x.told(0, 3), 3);
        Check.same("left", x.told(0, 0), 12);
        x.run(1);
        // 27: 4 by the first gate's rate, then 11 down to 12.
        Check.same("by gates", x.told(0, 3), 18);
        Check.same("left", x.told(0, 0), 12);
        Check.same("out", x.litres(3), 18);
        x.rain(0, 0);
        x.run(1);
        Check.same("below the heights", x.litres(3), 18);
        gateBeforeSpill();
    }

    private static void gateBeforeSpill() {
        StormPipes x = new StormPipes(1);
        x.node(10, 0, 1);
        x.gate(0, 0, 1_000_000);
        rainLitres(x, 0, 50);
        x.run(1);
        Check.same("all goes out", x.litres(3), 50);
        Check.same("nothing is more than full", x.told(0, 2), 0);
    }

    private static void promise15And16() {
        StormPipes x = new StormPipes(3);
        x.node(10, 0, 1);
        x.node(10, 0, 1);
        x.node(10, 0, 1);
        x.street(1, 2);
        x.gate(2, 4, 5);
        rainLitres(x, 0, 12);
        rainLitres(x, 1, 13);
        rainLitres(x, 2, 7);
        int[] wrong = {-1, 5, MIN, MAX};
        for (int part : wrong) {
            Check.same("litres(" + part + ")", x.litres(part), -1);
        }
        x.run(1);
        long[] due = {32, 24, 3, 3, 2};
        for (int part = 0; part < due.length; part++) {
            Check.same("litres(" + part + ")", x.litres(part), due[part]);
        }
        Check.same("keeps()", x.keeps(), true);
        x.run(50);
        Check.same("rained", x.litres(0), 32 * 51);
        Check.same("keeps()", x.keeps(), true);
    }

    /** The largest of all numbers stay within what can be held. */
    private static void greatNumbers() {
        StormPipes x = new StormPipes(24);
        for (int i = 0; i < 24; i++) {
            x.node(i == 0 ? -99_999 : 100_000, -100_000, i == 0 ? 1 : 100_000);
        }
        for (int i = 0; i < 24; i++) {
            x.area(0, 1_000_000, 0);
        }
        for (int minute = 0; minute < 60; minute++) {
            x.rain(minute, 20_000);
        }
        x.pipe(0, 1, 1, 3_000);
        x.run(1);
        // 24 x 333,333 litres; all of them are wanted and moved.
        Check.same("rained", x.litres(0), 24L * 333_333);
        Check.same("moved", x.flow(0, 0), 24L * 333_333);
        for (int i = 0; i < 6; i++) {
            x.run(599);
        }
        x.run(5);
        Check.same("rained in an hour", x.litres(0), 24L * 1_200_000_000L);
        Check.same("keeps()", x.keeps(), true);
        Check.same("moved in all", x.flow(0, 1), 24L * 1_200_000_000L - x.told(0, 0) - x.told(0, 2));
    }
}
