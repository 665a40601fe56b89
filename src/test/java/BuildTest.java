/** Promises 1 to 9 and 22: what can be built, its numbers and limits, and wrong inputs. */
public final class BuildTest {
    private static final int MIN = Integer.MIN_VALUE;
    private static final int MAX = Integer.MAX_VALUE;

    public static void main(String[] args) {
        promise1();
        promise2();
        promise3();
        promise4();
        promise5();
        promise6();
        promise7();
        promise8();
        promise9();
        promise22();
        Check.end();
    }

    private static int nodesOf(StormPipes x) {
        int made = 0;
        while (made < 100 && x.node(0, -1, 1) == made) {
            made++;
        }
        return made;
    }

    private static StormPipes withNodes(int nodes) {
        StormPipes x = new StormPipes(nodes);
        nodesOf(x);
        return x;
    }

    private static void promise1() {
        int[][] limits = {{MIN, 1}, {-1, 1}, {0, 1}, {1, 1}, {2, 2}, {23, 23}, {24, 24}, {25, 24}, {MAX, 24}};
        for (int[] limit : limits) {
            Check.same("nodes of StormPipes(" + limit[0] + ")", nodesOf(new StormPipes(limit[0])), limit[1]);
        }
        StormPipes x = new StormPipes(3);
        for (int what = 0; what <= 8; what++) {
            Check.same("new count(" + what + ")", x.count(what), 0);
        }
        for (int part = 0; part <= 4; part++) {
            Check.same("new litres(" + part + ")", x.litres(part), 0);
        }
        for (int cell = 0; cell <= 7; cell++) {
            Check.same("new cell(" + cell + ")", x.cell(cell), 0);
        }
        Check.same("new keeps()", x.keeps(), true);
    }

    private static void promise2() {
        StormPipes x = new StormPipes(3);
        int[][] wrong = {
            {100_001, 0, 1}, {0, -100_001, 1}, {MAX, 0, 1}, {0, MIN, 1}, {-100_001, -100_002, 1},
            {5, 5, 1}, {5, 6, 1}, {100_000, 100_000, 1}, {1, 0, 0}, {1, 0, -1}, {1, 0, 100_001}, {1, 0, MIN}};
        for (int[] w : wrong) {
            Check.same("node(" + w[0] + ", " + w[1] + ", " + w[2] + ")", x.node(w[0], w[1], w[2]), -1);
        }
        Check.same("no node came", x.count(0), 0);
        Check.same("widest node", x.node(100_000, -100_000, 100_000), 0);
        Check.same("least node", x.node(-99_999, -100_000, 1), 1);
        Check.same("third node", x.node(100_000, 99_999, 7), 2);
        Check.same("no room", x.node(1, 0, 1), -1);
        Check.same("litres at first", x.told(0, 0), 0);
        Check.same("level at first", x.told(0, 1), -100_000);
        Check.same("level at first", x.told(2, 1), 99_999);
        Check.same("more than full at first", x.told(0, 2), 0);
        Check.same("by gates at first", x.told(0, 3), 0);
    }

    private static void promise3() {
        StormPipes x = withNodes(3);
        int[][] wrong = {
            {0, 0, 1, 10}, {2, 2, 1, 10}, {0, 3, 1, 10}, {3, 0, 1, 10}, {-1, 0, 1, 10}, {0, -1, 1, 10},
            {0, MAX, 1, 10}, {MIN, 0, 1, 10}, {0, 1, 0, 10}, {0, 1, -5, 10}, {0, 1, 10_001, 10},
            {0, 1, 1, 9}, {0, 1, 1, 3_001}, {0, 1, 1, MIN}, {0, 1, MAX, 10}};
        for (int[] w : wrong) {
            Check.same("pipe(" + w[0] + ", " + w[1] + ", " + w[2] + ", " + w[3] + ")",
                x.pipe(w[0], w[1], w[2], w[3]), -1);
        }
        Check.same("no pipe came", x.count(1), 0);
        Check.same("least pipe", x.pipe(0, 1, 1, 10), 0);
        Check.same("longest pipe", x.pipe(2, 0, 10_000, 3_000), 1);
        for (int i = 2; i < 40; i++) {
            Check.same("a pipe more", x.pipe(i % 2, 2, i, 100), i);
        }
        Check.same("41st pipe", x.pipe(0, 1, 1, 10), -1);
        Check.same("pipes", x.count(1), 40);
        for (int what = 0; what <= 2; what++) {
            Check.same("new pipe's flow", x.flow(39, what), 0);
        }
    }

    private static void promise4() {
        StormPipes x = withNodes(2);
        int[][] wrong = {
            {-1, 1, 0}, {2, 1, 0}, {MAX, 1, 0}, {0, 0, 0}, {0, -1, 0}, {0, 1_000_001, 0}, {0, MIN, 0},
            {0, 1, -1}, {0, 1, 1_001}, {0, 1, MAX}};
        for (int[] w : wrong) {
            Check.same("area(" + w[0] + ", " + w[1] + ", " + w[2] + ")", x.area(w[0], w[1], w[2]), -1);
        }
        Check.same("no area came", x.count(2), 0);
        Check.same("least area", x.area(0, 1, 0), 0);
        Check.same("largest area", x.area(1, 1_000_000, 1_000), 1);
        for (int i = 2; i < 24; i++) {
            Check.same("an area more", x.area(1, i, 500), i);
        }
        Check.same("25th area", x.area(0, 1, 0), -1);
        Check.same("areas", x.count(2), 24);
    }

    private static void promise5() {
        StormPipes x = new StormPipes(1);
        int[][] wrong = {{-1, 1}, {1_440, 1}, {MIN, 1}, {MAX, 1}, {0, -1}, {0, 20_001}, {0, MIN}, {0, MAX}};
        for (int[] w : wrong) {
            Check.same("rain(" + w[0] + ", " + w[1] + ")", x.rain(w[0], w[1]), -1);
        }
        Check.same("rain was", x.rain(0, 20_000), 0);
        Check.same("rain was", x.rain(0, 0), 20_000);
        Check.same("rain was", x.rain(0, 3), 0);
        Check.same("wrong rain", x.rain(0, 20_001), -1);
        Check.same("rain was", x.rain(0, 4), 3);
        Check.same("last minute was", x.rain(1_439, 7), 0);
        Check.same("last minute was", x.rain(1_439, 8), 7);
        Check.same("the next one is another", x.rain(1, 8), 0);
    }

    private static void promise6() {
        StormPipes x = withNodes(3);
        int[][] wrong = {
            {0, 0, 5, 4, 1}, {0, 3, 5, 4, 1}, {3, 0, 5, 4, 1}, {-1, 0, 5, 4, 1}, {0, -1, 5, 4, 1},
            {0, 1, 5, 5, 1}, {0, 1, 4, 5, 1}, {0, 1, MIN, MAX, 1}, {0, 1, 5, 4, 0}, {0, 1, 5, 4, -1},
            {0, 1, 5, 4, 100_001}, {0, 1, 5, 4, MAX}};
        for (int[] w : wrong) {
            Check.same("pump(" + w[0] + ", " + w[1] + ", " + w[2] + ", " + w[3] + ", " + w[4] + ")",
                x.pump(w[0], w[1], w[2], w[3], w[4]), -1);
        }
        Check.same("no pump came", x.count(3), 0);
        Check.same("least pump", x.pump(0, 1, 1, 0, 1), 0);
        Check.same("largest pump", x.pump(2, 0, -99, -100, 100_000), 1);
        for (int i = 2; i < 8; i++) {
            Check.same("a pump more", x.pump(1, 2, i, -i, i), i);
        }
        Check.same("9th pump", x.pump(0, 1, 1, 0, 1), -1);
        Check.same("pumps", x.count(3), 8);
        Check.same("off at first", x.pumps(7), 0);
    }

    private static void promise7() {
        StormPipes x = withNodes(2);
        int[][] wrong = {
            {-1, 0, 1}, {2, 0, 1}, {0, -1, 1}, {0, 200_001, 1}, {0, MIN, 1}, {0, MAX, 1}, {0, 0, 0}, {0, 0, -1},
            {0, 0, 1_000_001}, {0, 0, MAX}};
        for (int[] w : wrong) {
            Check.same("gate(" + w[0] + ", " + w[1] + ", " + w[2] + ")", x.gate(w[0], w[1], w[2]), -1);
        }
        Check.same("no gate came", x.count(4), 0);
        Check.same("least gate", x.gate(0, 0, 1), 0);
        Check.same("largest gate", x.gate(1, 200_000, 1_000_000), 1);
        for (int i = 2; i < 8; i++) {
            Check.same("a gate more", x.gate(1, i, i), i);
        }
        Check.same("9th gate", x.gate(0, 0, 1), -1);
        Check.same("gates", x.count(4), 8);
    }

    private static void promise8() {
        StormPipes x = withNodes(2);
        int[][] wrong = {
            {-1, 0, 1}, {8, 0, 1}, {MAX, 0, 1}, {0, -1, 1}, {0, 2, 1}, {0, MIN, 1}, {0, 0, 0}, {0, 0, -1},
            {0, 0, 100_001}, {0, 0, MAX}};
        for (int[] w : wrong) {
            Check.same("gully(" + w[0] + ", " + w[1] + ", " + w[2] + ")", x.gully(w[0], w[1], w[2]), -1);
        }
        Check.same("no gully came", x.count(5), 0);
        Check.same("least gully", x.gully(0, 0, 1), 0);
        Check.same("largest gully", x.gully(7, 1, 100_000), 1);
        for (int i = 2; i < 8; i++) {
            Check.same("a gully more", x.gully(i, 1, i), i);
        }
        Check.same("9th gully", x.gully(0, 0, 1), -1);
        Check.same("gullies", x.count(5), 8);
    }

    private static void promise9() {
        StormPipes x = withNodes(2);
        int[][] wrong = {{-1, 0}, {2, 0}, {MAX, -1}, {MIN, 0}, {0, -2}, {0, 8}, {0, MIN}, {0, MAX}};
        for (int[] w : wrong) {
            Check.same("street(" + w[0] + ", " + w[1] + ")", x.street(w[0], w[1]), -2);
        }
        Check.same("street was", x.street(0, 7), -1);
        Check.same("wrong street", x.street(0, 8), -2);
        Check.same("street was", x.street(0, 0), 7);
        Check.same("street was", x.street(0, -1), 0);
        Check.same("street was", x.street(0, -1), -1);
        Check.same("other node's street was", x.street(1, 3), -1);
    }

    private static void promise22() {
        StormPipes x = withNodes(4);
        x.pipe(0, 1, 1, 10);
        x.pipe(0, 1, 1, 10);
        x.pipe(0, 1, 1, 10);
        x.area(0, 1, 0);
        x.area(0, 1, 0);
        x.pump(0, 1, 1, 0, 1);
        for (int i = 0; i < 5; i++) {
            x.gate(0, 0, 1);
        }
        for (int i = 0; i < 6; i++) {
            x.gully(0, 0, 1);
        }
        for (int i = 0; i < 4; i++) {
            x.list(10 + i, 1);
        }
        x.begin(0, -1_000);
        for (int i = 0; i < 9; i++) {
            x.piece(0, 1, 0);
        }
        x.run(17);
        int[] due = {4, 3, 2, 1, 5, 6, 4, 9, 17};
        for (int what = 0; what < due.length; what++) {
            Check.same("count(" + what + ")", x.count(what), due[what]);
        }
        int[] wrong = {-1, 9, MIN, MAX};
        for (int what : wrong) {
            Check.same("count(" + what + ")", x.count(what), -1);
        }
    }
}
