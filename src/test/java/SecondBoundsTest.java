import java.util.function.Supplier;

/** Each sentence on what a second does, and of the promises 10 to 16, that names a bound: at it and on either side. */
public final class SecondBoundsTest {
    private static final long NOT_TOLD = -1_099_511_627_776L;
    private static final long NO_FLOW = -1_152_921_504_606_846_976L;

    public static void main(String[] args) {
        levelIsRoundedDown();
        fullIsRoomTimesDepth();
        fullOfTheLargestNode();
        minuteIsRoundedDown();
        rainOfAMinuteThatPasses();
        areaComesToALitre();
        areaKeepsWhatIsLeft();
        areasHaveTheirOwnRests();
        pipeMovesWhatGoesIn();
        pipeIsCutOffToZero();
        pipeRestIsCarriedOn();
        pipeRestTurnsItsSign();
        pipeGivesAtMostWhatIsThere();
        pipeGivesWhatIsThereThen();
        pipesGoByLevelsBehindRain();
        pipeMayOverfill();
        pumpIsOnAtOn();
        pumpIsOffAtOff();
        pumpStaysBetween();
        pumpOnJustAboveOff();
        pumpMovesAtMostRate();
        pumpsAsTheyCame();
        gateTakesWhatIsAbove();
        gateTakesAtMostRate();
        gateAboveTheGround();
        gatesAsTheyCame();
        gullyMovesAtMostRate();
        gullyStopsWhenFull();
        gulliesAsTheyCame();
        spillsWhatIsMoreThanFull();
        stepsInTheirOrder();
        runSeconds();
        runUntilTheEnd();
        runWithoutNodes();
        toldSoFar();
        toldNoneSuch();
        flowNoneSuch();
        flowInTheLastSecond();
        cellNoneSuch();
        pumpsNoneSuch();
        litresNoneSuch();
        keepsAtAllTimes();
        the512thCall();
        Check.end();
    }

    private static Supplier<StormPipes> busy() {
        return Bounds::busy;
    }

    /** So many nodes of room 1 from 0 to 1,000. */
    private static StormPipes plain(int nodes) {
        StormPipes x = new StormPipes(nodes);
        for (int i = 0; i < nodes; i++) {
            x.node(1_000, 0, 1);
        }
        return x;
    }

    /** A second with so much rain for a node that has had none yet, then it is dry. */
    private static void fill(StormPipes x, int node, int litres) {
        Bounds.rainLitres(x, node, litres);
        x.run(1);
        x.rain(0, 0);
    }

    // "A node's LEVEL is its bottom and its litres by its room, rounded down".
    private static void levelIsRoundedDown() {
        int[] bottoms = {-100_000, -10, -1, 0, 1, 50};
        for (int bottom : bottoms) {
            int[][] levels = {{1, 0}, {6, 0}, {7, 1}, {8, 1}, {13, 1}, {14, 2}, {15, 2}, {69, 9}, {70, 10}, {71, 10}};
            for (int[] level : levels) {
                StormPipes x = new StormPipes(1);
                x.node(bottom + 100, bottom, 7);
                fill(x, 0, level[0]);
                Check.same(level[0] + " litres on " + bottom, x.told(0, 1), bottom + level[1]);
            }
        }
        StormPipes x = new StormPipes(1);
        x.node(10, -10, 7);
        Check.same("level without litres", x.told(0, 1), -10);
    }

    // "it is FULL with room times (ground less bottom) litres."
    private static void fullIsRoomTimesDepth() {
        int[][] nodes = {{-5, -9, 3}, {4, 0, 3}, {2, -2, 3}, {9, 8, 12}, {12, 0, 1}};
        for (int[] n : nodes) {
            for (int litres = 11; litres <= 14; litres++) {
                StormPipes x = new StormPipes(1);
                x.node(n[0], n[1], n[2]);
                fill(x, 0, litres);
                int more = Math.max(0, litres - 12);
                Check.same(litres + " litres: held", x.told(0, 0), litres - more);
                Check.same(litres + " litres: more than full", x.told(0, 2), more);
                Check.same(litres + " litres: outside", x.litres(4), more);
                Check.same(litres + " litres: level at the ground", x.told(0, 1) == n[0], litres >= 12);
            }
        }
    }

    private static void fullOfTheLargestNode() {
        StormPipes x = new StormPipes(1);
        x.node(100_000, -100_000, 100_000);
        for (int i = 0; i < 24; i++) {
            x.area(0, 1_000_000, 0);
        }
        for (int minute = 0; minute < 43; minute++) {
            x.rain(minute, 20_000);
        }
        for (int i = 0; i < 5; i++) {
            x.run(500);
        }
        // Each area has brought 833,333,333 litres and has a rest.
        Check.same("8 litres less than full", x.told(0, 0), 19_999_999_992L);
        Check.same("8 litres less than full: level", x.told(0, 1), 99_999);
        Check.same("8 litres less than full: nothing more", x.told(0, 2), 0);
        x.run(1);
        Check.same("full", x.told(0, 0), 20_000_000_000L);
        Check.same("full: level", x.told(0, 1), 100_000);
        Check.same("more than full", x.told(0, 2), 24L * 333_333 - 8);
    }

    // "the rain of minute s / 60 (rounded down)", "the s-th one from 0 on".
    private static void minuteIsRoundedDown() {
        int[] minutes = {0, 1, 2, 59, 1_438, 1_439};
        for (int minute : minutes) {
            StormPipes x = new StormPipes(1);
            x.node(100_000, 0, 100);
            x.area(0, 60, 0);
            x.rain(minute, 1_000);
            pass(x, minute * 60 - 1);
            Check.same("before the last second before minute " + minute, x.litres(0), 0);
            pass(x, minute == 0 ? 0 : 1);
            Check.same("before minute " + minute, x.litres(0), 0);
            x.run(1);
            Check.same("first second of minute " + minute, x.litres(0), 1);
            x.run(58);
            Check.same("last second but one of minute " + minute, x.litres(0), 59);
            x.run(1);
            Check.same("last second of minute " + minute, x.litres(0), 60);
            x.run(1);
            Check.same("behind minute " + minute, x.litres(0), 60);
        }
    }

    private static void pass(StormPipes x, int seconds) {
        int left = seconds;
        while (left > 0) {
            int now = Math.min(600, left);
            x.run(now);
            left -= now;
        }
    }

    private static void rainOfAMinuteThatPasses() {
        StormPipes x = plain(1);
        x.area(0, 60, 0);
        x.rain(0, 1_000);
        x.run(59);
        x.rain(0, 4_000);
        x.run(1);
        Check.same("rain changed for the last second of its minute", x.litres(0), 63);
        x.rain(0, 20_000);
        x.run(1);
        Check.same("rain changed behind its minute", x.litres(0), 63);
    }

    // "as many litres as 60,000,000 goes into it come to the node".
    private static void areaComesToALitre() {
        int[][] areas = {
            {3, 19_999, 0, 0}, {3, 20_000, 0, 1}, {4, 15_000, 0, 1}, {5, 12_001, 0, 1}, {60, 1_000, 1, 0},
            {60, 1_000, 0, 1}, {61, 1_000, 0, 1}, {59, 1_000, 0, 0}, {60, 999, 0, 0}, {60, 1_001, 0, 1},
            // 60,000,001; 119,999,999; 120,000,000; 120,000,001.
            {397_351, 1, 849, 1}, {29, 10_423, 603, 1}, {6, 20_000, 0, 2}, {39_383, 11, 723, 2}};
        for (int[] a : areas) {
            StormPipes x = plain(1);
            x.area(0, a[0], a[2]);
            x.rain(0, a[1]);
            x.run(1);
            String what = a[0] + " squares, rain " + a[1] + ", loss " + a[2];
            Check.same(what, x.told(0, 0), a[3]);
            Check.same(what + ": rained", x.litres(0), a[3]);
        }
    }

    // "and it keeps what is left."
    private static void areaKeepsWhatIsLeft() {
        StormPipes x = plain(1);
        x.area(0, 1, 0);
        x.rain(0, 20_000);
        long[] thirds = {0, 0, 1, 1, 1, 2, 2, 2, 3};
        for (long due : thirds) {
            x.run(1);
            Check.same("a litre in three seconds", x.litres(0), due);
        }
        StormPipes y = plain(1);
        y.area(0, 29, 603);
        y.rain(0, 10_423);
        for (int second = 1; second <= 60; second++) {
            y.run(1);
            // One less than 120,000,000 a second: never quite two litres a second.
            Check.same("119,999,999 a second", y.litres(0), 2 * second - 1);
        }
        y.run(60);
        Check.same("the rest stays while it is dry", y.litres(0), 119);
        y.rain(2, 10_423);
        y.run(1);
        Check.same("and is carried on", y.litres(0), 121);
        restOfADryAreaIsJustEnough();
    }

    private static void restOfADryAreaIsJustEnough() {
        for (int rain = 999; rain <= 1_001; rain++) {
            StormPipes x = plain(1);
            x.area(0, 20, 0);
            x.rain(0, 2_000);
            x.run(1);
            x.rain(0, 0);
            x.run(5);
            x.rain(0, rain);
            x.run(1);
            Check.same("40,000,000 and later 20 x 1,000 x " + rain, x.litres(0), rain >= 1_000 ? 1 : 0);
        }
    }

    private static void areasHaveTheirOwnRests() {
        StormPipes x = plain(1);
        x.area(0, 59, 0);
        x.area(0, 59, 0);
        x.rain(0, 1_000);
        x.run(1);
        Check.same("two rests of 59,000,000 make no litre", x.litres(0), 0);
        x.run(1);
        Check.same("each makes one", x.litres(0), 2);
    }

    /** A second of a pipe with so much in the node at its beginning, or at its end if it is below 0. */
    private static StormPipes piped(int length, int width, int litres) {
        StormPipes x = new StormPipes(2);
        x.node(10_000, 0, 1);
        x.node(10_000, 0, 1);
        x.pipe(0, 1, length, width);
        fill(x, litres < 0 ? 1 : 0, Math.abs(litres));
        return x;
    }

    // "what goes into that with 1,000 times the length", at a whole and one to either side of it.
    private static void pipeMovesWhatGoesIn() {
        int[][] pipes = {
            // 121 x 719 is 86,999; 121 x 281 is 34,001; 100 x 870 is 87,000.
            {87, 11, 719, 0, 86_999}, {87, 10, 870, 1, 0}, {34, 11, 281, 1, 1}, {34, 10, 340, 1, 0},
            {1, 10, 9, 0, 900}, {1, 10, 10, 1, 0}, {1, 10, 11, 1, 100}, {1, 10, 19, 1, 900}, {1, 10, 20, 2, 0},
            {1, 10, 21, 2, 100}, {10_000, 10, 1, 0, 100}, {10_000, 1_000, 9, 0, 9_000_000}, {10_000, 1_000, 10, 1, 0}};
        for (int[] p : pipes) {
            StormPipes x = piped(p[0], p[1], p[2]);
            String what = "length " + p[0] + ", width " + p[1] + ", difference " + p[2];
            Check.same(what + ": moved", x.flow(0, 0), p[3]);
            Check.same(what + ": in all", x.flow(0, 1), p[3]);
            Check.same(what + ": rest", x.flow(0, 2), p[4]);
            Check.same(what + ": beginning", x.told(0, 0), p[2] - p[3]);
            Check.same(what + ": end", x.told(1, 0), p[3]);
        }
    }

    // "cut off (to 0), with its sign, is to move, and the rest keeps what is left (with its sign)."
    private static void pipeIsCutOffToZero() {
        int[][] pipes = {
            {87, 11, 719, 0, 86_999}, {87, 10, 870, 1, 0}, {34, 11, 281, 1, 1}, {1, 10, 1, 0, 100}, {1, 10, 9, 0, 900},
            {1, 10, 10, 1, 0}, {1, 10, 11, 1, 100}, {1, 10, 20, 2, 0}, {10_000, 10, 1, 0, 100}};
        for (int[] p : pipes) {
            StormPipes x = piped(p[0], p[1], -p[2]);
            String what = "length " + p[0] + ", width " + p[1] + ", difference -" + p[2];
            Check.same(what + ": moved", x.flow(0, 0), -p[3]);
            Check.same(what + ": in all", x.flow(0, 1), -p[3]);
            Check.same(what + ": rest", x.flow(0, 2), -p[4]);
            Check.same(what + ": beginning", x.told(0, 0), p[3]);
            Check.same(what + ": end", x.told(1, 0), p[2] - p[3]);
        }
        StormPipes level = plain(2);
        level.pipe(0, 1, 1, 3_000);
        Bounds.rainLitres(level, 0, 400);
        Bounds.rainLitres(level, 1, 400);
        level.run(2);
        Check.same("like levels move nothing", level.flow(0, 1), 0);
        Check.same("like levels leave no rest", level.flow(0, 2), 0);
    }

    private static void pipeRestIsCarriedOn() {
        StormPipes x = piped(1, 10, 3);
        long[][] seconds = {{0, 300}, {0, 600}, {0, 900}, {1, 200}, {0, 300}, {0, 400}};
        for (long[] second : seconds) {
            Check.same("moved", x.flow(0, 0), second[0]);
            Check.same("rest", x.flow(0, 2), second[1]);
            x.run(1);
        }
    }

    private static void pipeRestTurnsItsSign() {
        StormPipes x = piped(1, 10, 9);
        Check.same("rest above 0", x.flow(0, 2), 900);
        Bounds.rainLitres(x, 1, 18);
        // 60 x 9 squares more at node 0: 18 there, 18 at node 1; then 27 and 36.
        x.run(1);
        Check.same("like levels keep the rest", x.flow(0, 2), 900);
        Check.same("and move nothing", x.flow(0, 0), 0);
        x.run(1);
        Check.same("900 less 900", x.flow(0, 2), 0);
        Check.same("and move nothing", x.flow(0, 0), 0);
        x.rain(0, 0);
        x.run(1);
        Check.same("rest below 0", x.flow(0, 2), -900);
        Check.same("not yet", x.flow(0, 0), 0);
        x.run(1);
        Check.same("moved back", x.flow(0, 0), -1);
        Check.same("rest below 0", x.flow(0, 2), -800);
    }

    // "but at most what the node that gives it has then."
    private static void pipeGivesAtMostWhatIsThere() {
        // The width's square times 50 by 10,000: 49, 50 and 51 litres of the 50 that are there.
        int[][] widths = {{99, 49, 50}, {100, 50, 0}, {101, 50, 50}, {3_000, 50, 0}};
        for (int[] w : widths) {
            StormPipes x = piped(10, w[0], 50);
            Check.same("width " + w[0] + ": moved", x.flow(0, 0), w[1]);
            Check.same("width " + w[0] + ": left", x.told(0, 0), 50 - w[1]);
            Check.same("width " + w[0] + ": came", x.told(1, 0), w[1]);
            Check.same("width " + w[0] + ": rest is of what was to move", x.flow(0, 2), w[2]);
            StormPipes y = piped(10, w[0], -50);
            Check.same("width " + w[0] + ": moved back", y.flow(0, 0), -w[1]);
            Check.same("width " + w[0] + ": left", y.told(1, 0), 50 - w[1]);
            Check.same("width " + w[0] + ": came back", y.told(0, 0), w[1]);
            Check.same("width " + w[0] + ": rest is of what was to move", y.flow(0, 2), -w[2]);
        }
        StormPipes empty = new StormPipes(2);
        empty.node(1_000, 500, 1);
        empty.node(1_000, 0, 1);
        empty.pipe(0, 1, 1, 100);
        empty.run(3);
        Check.same("an empty node gives nothing", empty.flow(0, 1), 0);
        Check.same("and none is below 0", empty.told(0, 0), 0);
        Check.same("the rest is of what was to move", empty.flow(0, 2), 0);
    }

    private static void pipeGivesWhatIsThereThen() {
        // Each pipe wants 1,000 litres: what pipe 0 leaves is what the node has then.
        int[][] seconds = {{1_999, 1_000, 999}, {2_000, 1_000, 1_000}, {2_001, 1_000, 1_000}, {1_000, 1_000, 0}};
        for (int[] s : seconds) {
            StormPipes x = new StormPipes(3);
            x.node(1_000, 0, 100);
            x.node(1_000, 0, 100);
            x.node(1_000, 0, 100);
            int level = s[0] / 100;
            x.pipe(0, 1, level, 1_000);
            x.pipe(0, 2, level, 1_000);
            fill(x, 0, s[0]);
            Check.same(s[0] + " litres: first pipe", x.flow(0, 0), s[1]);
            Check.same(s[0] + " litres: second pipe", x.flow(1, 0), s[2]);
        }
        // What an earlier pipe of this second brought can go on: node 1 begins 50 above node 2, and empty.
        StormPipes x = new StormPipes(3);
        x.node(1_000, 0, 1);
        x.node(1_000, -50, 1);
        x.node(1_000, -100, 1);
        x.pipe(0, 1, 10, 100);
        x.pipe(1, 2, 1, 100);
        fill(x, 0, 20);
        Check.same("brought", x.flow(0, 0), 20);
        Check.same("and gone on", x.flow(1, 0), 20);
        StormPipes y = new StormPipes(3);
        y.node(1_000, 0, 1);
        y.node(1_000, -50, 1);
        y.node(1_000, -100, 1);
        y.pipe(1, 2, 1, 100);
        y.pipe(0, 1, 10, 100);
        fill(y, 0, 20);
        Check.same("the other order: nothing there yet", y.flow(0, 0), 0);
        Check.same("brought", y.flow(1, 0), 20);
    }

    // "with all levels as they are behind 1".
    private static void pipesGoByLevelsBehindRain() {
        StormPipes x = plain(2);
        x.pipe(0, 1, 1, 10);
        x.pipe(0, 1, 1, 10);
        x.pipe(1, 0, 1, 10);
        Bounds.rainLitres(x, 0, 100);
        x.run(1);
        Check.same("first pipe", x.flow(0, 0), 10);
        Check.same("second pipe, by the same levels", x.flow(1, 0), 10);
        Check.same("third pipe, by the same levels", x.flow(2, 0), -10);
        // 170 against 30.
        x.run(1);
        Check.same("first pipe", x.flow(0, 0), 14);
        Check.same("second pipe", x.flow(1, 0), 14);
        Check.same("third pipe", x.flow(2, 0), -14);
    }

    private static void pipeMayOverfill() {
        StormPipes x = new StormPipes(2);
        x.node(1_000, 0, 1);
        x.node(10, 0, 1);
        x.street(1, 6);
        x.pipe(0, 1, 1, 100);
        fill(x, 0, 11);
        Check.same("all has moved", x.flow(0, 0), 11);
        Check.same("full", x.told(1, 0), 10);
        Check.same("the street has the rest", x.cell(6), 1);
    }

    /** A pump whose node has so many litres and a room of 3: whether it is on behind a second. */
    private static StormPipes pumped(int litres, int on, int off, int rate) {
        StormPipes x = new StormPipes(2);
        x.node(1_000, -10, 3);
        x.node(1_000, -10, 3);
        x.pump(0, 1, on, off, rate);
        fill(x, 0, litres);
        return x;
    }

    // "a pump whose node has a level of at least ON is on", "(off at first)".
    private static void pumpIsOnAtOn() {
        int[][] fills = {{56, 0}, {57, 0}, {59, 0}, {60, 1}, {61, 1}, {62, 1}, {63, 1}};
        for (int[] f : fills) {
            StormPipes x = pumped(f[0], 10, 9, 5);
            Check.same(f[0] + " litres, on at 60", x.pumps(0), f[1]);
            Check.same(f[0] + " litres: moved", x.told(1, 0), 5 * f[1]);
            StormPipes y = pumped(f[0], 10, -1_000, 5);
            Check.same(f[0] + " litres, off far below", y.pumps(0), f[1]);
            Check.same(f[0] + " litres: moved", y.told(1, 0), 5 * f[1]);
        }
    }

    // "else with a level of at most OFF it is off".
    private static void pumpIsOffAtOff() {
        // 90 litres are a level of 20; one pump's second leaves so many of them.
        int[][] rates = {{57, 1}, {58, 1}, {59, 1}, {60, 1}, {61, 0}, {62, 0}, {63, 0}, {64, 0}};
        for (int[] r : rates) {
            StormPipes x = pumped(90, 20, -1, r[0]);
            Check.same("on at first", x.pumps(0), 1);
            Check.same("moved at first", x.told(1, 0), r[0]);
            x.run(1);
            int left = 90 - r[0];
            Check.same(left + " litres, off below 30", x.pumps(0), r[1]);
            Check.same(left + " litres: moved", x.told(0, 0), r[1] == 1 ? Math.max(0, left - r[0]) : left);
        }
    }

    // "else it is as it was".
    private static void pumpStaysBetween() {
        StormPipes x = pumped(60, 15, 5, 4);
        for (int i = 0; i < 3; i++) {
            Check.same("off between", x.pumps(0), 0);
            x.run(1);
        }
        Check.same("nothing moved", x.told(1, 0), 0);
        StormPipes y = pumped(75, 15, 5, 4);
        for (int left = 71; left > 47; left -= 4) {
            Check.same("on between", y.pumps(0), 1);
            Check.same("left", y.told(0, 0), left);
            y.run(1);
        }
        Check.same("47 litres are a level of 5", y.told(0, 1), 5);
        y.run(1);
        Check.same("off", y.pumps(0), 0);
        Check.same("stays", y.told(0, 0), 47);
    }

    private static void pumpOnJustAboveOff() {
        StormPipes x = pumped(36, 2, 1, 2);
        Check.same("on at a level of 2", x.pumps(0), 1);
        Check.same("34 litres are left, a level of 1", x.told(0, 1), 1);
        x.run(1);
        Check.same("off at a level of 1", x.pumps(0), 0);
        int[] bounds = {Bounds.MIN, Bounds.MAX - 1};
        for (int off : bounds) {
            StormPipes y = pumped(36, off + 1, off, 2);
            Check.same("on from " + (off + 1), y.pumps(0), off == Bounds.MIN ? 1 : 0);
        }
    }

    // "On: at most RATE litres move to its other node."
    private static void pumpMovesAtMostRate() {
        for (int litres = 8; litres <= 12; litres++) {
            StormPipes x = pumped(litres, -10, -11, 10);
            int moved = Math.min(10, litres);
            Check.same(litres + " litres: moved", x.told(1, 0), moved);
            Check.same(litres + " litres: left", x.told(0, 0), litres - moved);
        }
        StormPipes empty = plain(2);
        empty.pump(0, 1, 0, -1, 10);
        empty.run(1);
        Check.same("on at its bottom", empty.pumps(0), 1);
        Check.same("nothing to move", empty.told(1, 0), 0);
        StormPipes over = new StormPipes(2);
        over.node(1_000, 0, 1);
        over.node(5, 0, 1);
        over.pump(0, 1, 1, 0, 10);
        fill(over, 0, 10);
        Check.same("a pump may overfill", over.told(1, 2), 5);
    }

    private static void pumpsAsTheyCame() {
        StormPipes x = plain(3);
        x.pump(0, 1, 20, 0, 5);
        x.pump(0, 2, 20, 0, 5);
        fill(x, 0, 24);
        Check.same("first pump is on", x.pumps(0), 1);
        Check.same("19 are left for the second", x.pumps(1), 0);
        StormPipes y = plain(3);
        y.pump(0, 1, 20, 0, 5);
        y.pump(0, 2, 20, 0, 5);
        fill(y, 0, 25);
        Check.same("20 are left for the second", y.pumps(1), 1);
        StormPipes z = plain(3);
        z.pump(1, 2, 5, 0, 3);
        z.pump(0, 1, 5, 0, 5);
        fill(z, 0, 5);
        Check.same("the first sees nothing yet", z.pumps(0), 0);
        z.run(1);
        Check.same("in the next second it does", z.pumps(0), 1);
    }

    private static StormPipes gated(int litres, int height, int rate) {
        StormPipes x = new StormPipes(1);
        x.node(1_000, -10, 3);
        x.gate(0, height, rate);
        fill(x, 0, litres);
        return x;
    }

    // "of those that the node has above the gate's height (in millimetres above the bottom, times the room)".
    private static void gateTakesWhatIsAbove() {
        for (int litres = 57; litres <= 64; litres++) {
            StormPipes x = gated(litres, 20, 100);
            int gone = Math.max(0, litres - 60);
            Check.same(litres + " litres: out", x.litres(3), gone);
            Check.same(litres + " litres: told of the node", x.told(0, 3), gone);
            Check.same(litres + " litres: left", x.told(0, 0), litres - gone);
            x.run(1);
            Check.same(litres + " litres: nothing more", x.litres(3), gone);
        }
        Check.same("a gate at the bottom takes the last litre", gated(1, 0, 100).litres(3), 1);
        Check.same("a gate just above it does not", gated(3, 1, 100).litres(3), 0);
        Check.same("but the first above", gated(4, 1, 100).litres(3), 1);
        StormPipes empty = plain(1);
        empty.gate(0, 0, 5);
        empty.run(2);
        Check.same("an empty node", empty.litres(3), 0);
    }

    // "at most RATE litres".
    private static void gateTakesAtMostRate() {
        for (int litres = 68; litres <= 72; litres++) {
            StormPipes x = gated(litres, 20, 10);
            int gone = Math.min(10, litres - 60);
            Check.same(litres + " litres: out", x.litres(3), gone);
            x.run(1);
            Check.same(litres + " litres: out in two seconds", x.litres(3), litres - 60);
        }
    }

    private static void gateAboveTheGround() {
        int[][] dues = {{10, 0, 0}, {11, 0, 1}, {12, 0, 2}, {13, 1, 2}, {15, 3, 2}, {16, 3, 3}};
        for (int[] due : dues) {
            StormPipes x = new StormPipes(1);
            x.node(10, 0, 1);
            x.gate(0, 12, 3);
            fill(x, 0, due[0]);
            Check.same(due[0] + " litres: out", x.litres(3), due[1]);
            Check.same(due[0] + " litres: outside", x.litres(4), due[2]);
            Check.same(due[0] + " litres: more than full", x.told(0, 2), due[2]);
        }
    }

    private static void gatesAsTheyCame() {
        StormPipes x = plain(1);
        x.gate(0, 10, 4);
        x.gate(0, 10, 4);
        x.gate(0, 10, 4);
        fill(x, 0, 19);
        Check.same("4, 4 and the last 1", x.litres(3), 9);
        StormPipes y = plain(1);
        y.gate(0, 10, 100);
        y.gate(0, 15, 100);
        fill(y, 0, 19);
        Check.same("the lower one first", y.litres(3), 9);
        StormPipes z = plain(1);
        z.gate(0, 15, 3);
        z.gate(0, 14, 3);
        fill(z, 0, 19);
        // 3 above 15, then 16 has 2 above 14.
        Check.same("the higher one first", z.litres(3), 5);
        StormPipes two = plain(2);
        two.gate(1, 0, 3);
        fill(two, 0, 5);
        Check.same("a gate at another node", two.litres(3), 0);
        Check.same("told of another node", two.told(0, 3), 0);
    }

    /** So much in cell 2, and a gully from there to node 1, which has a full of 20. */
    private static StormPipes gullied(int inCell, int inNode, int rate) {
        StormPipes x = new StormPipes(2);
        x.node(1, 0, 1);
        x.node(0, -10, 2);
        x.street(0, 2);
        x.area(1, 60 * Math.max(1, inNode), inNode == 0 ? 1_000 : 0);
        fill(x, 0, inCell + 1);
        x.gully(2, 1, rate);
        x.run(1);
        return x;
    }

    // "at most RATE litres of a cell move to a node".
    private static void gullyMovesAtMostRate() {
        for (int held = 0; held <= 12; held++) {
            StormPipes x = gullied(held, 0, 10);
            int moved = Math.min(10, held);
            Check.same(held + " in the cell: left", x.cell(2), held - moved);
            Check.same(held + " in the cell: moved", x.told(1, 0), moved);
        }
    }

    // "and not more than until it is full."
    private static void gullyStopsWhenFull() {
        for (int inNode = 8; inNode <= 20; inNode++) {
            StormPipes x = gullied(50, inNode, 10);
            int moved = Math.min(10, 20 - inNode);
            Check.same(inNode + " in the node: moved", x.told(1, 0), inNode + moved);
            Check.same(inNode + " in the node: left", x.cell(2), 50 - moved);
            Check.same(inNode + " in the node: nothing more than full", x.told(1, 2), 0);
        }
        for (int litres = 19; litres <= 23; litres++) {
            StormPipes x = new StormPipes(2);
            x.node(1, 0, 1);
            x.node(0, -10, 2);
            x.street(0, 2);
            fill(x, 0, 51);
            x.area(1, 60 * litres, 0);
            x.gully(2, 1, 10);
            x.rain(0, 1_000);
            x.run(1);
            // Rain comes before the gully: 51 litres more go over node 0, too.
            Check.same("rained " + litres + ": left", x.cell(2), 50 + 51 - Math.max(0, 20 - litres));
            Check.same("rained " + litres + ": more than full", x.told(1, 2), Math.max(0, litres - 20));
        }
    }

    private static void gulliesAsTheyCame() {
        int[][] rates = {{7, 5, 7, 3}, {5, 7, 5, 5}, {10, 5, 10, 0}, {9, 5, 9, 1}, {11, 5, 10, 0}};
        for (int[] r : rates) {
            StormPipes x = new StormPipes(3);
            x.node(1, 0, 1);
            x.node(100, 0, 1);
            x.node(100, 0, 1);
            x.street(0, 2);
            fill(x, 0, 11);
            x.gully(2, 1, r[0]);
            x.gully(2, 2, r[1]);
            x.gully(3, 2, 50);
            x.run(1);
            Check.same("first gully of " + r[0], x.told(1, 0), r[2]);
            Check.same("second gully of " + r[1], x.told(2, 0), r[3]);
            Check.same("cell", x.cell(2), 10 - r[2] - r[3]);
        }
    }

    // "what is more than full goes to the node's STREET, a cell, if it has one; else OUTSIDE."
    private static void spillsWhatIsMoreThanFull() {
        for (int cell = -1; cell <= 7; cell++) {
            for (int litres = 9; litres <= 12; litres++) {
                StormPipes x = new StormPipes(2);
                x.node(1_000, 0, 1);
                x.node(5, 0, 2);
                x.street(1, cell);
                fill(x, 1, litres);
                int more = Math.max(0, litres - 10);
                Check.same(litres + " litres: held", x.told(1, 0), litres - more);
                Check.same(litres + " litres: more than full", x.told(1, 2), more);
                Check.same(litres + " litres: outside", x.litres(4), cell == -1 ? more : 0);
                Check.same(litres + " litres: in cells", x.litres(2), cell == -1 ? 0 : more);
                Check.same(litres + " litres: in cell " + cell, cell == -1 ? 0 : x.cell(cell), cell == -1 ? 0 : more);
            }
        }
    }

    private static void stepsInTheirOrder() {
        rainThenPipes();
        pipesThenPumps();
        pumpsThenGates();
        gatesThenGullies();
        gulliesThenNodes();
    }

    private static void rainThenPipes() {
        StormPipes x = plain(2);
        x.pipe(0, 1, 1, 10);
        fill(x, 0, 10);
        Check.same("a pipe sees this second's rain", x.flow(0, 0), 1);
    }

    private static void pipesThenPumps() {
        StormPipes x = plain(3);
        x.pipe(0, 1, 1, 10);
        x.pump(1, 2, 10, 0, 3);
        fill(x, 0, 100);
        Check.same("a pump sees what pipes brought", x.pumps(0), 1);
        Check.same("and moves of it", x.told(2, 0), 3);
        StormPipes y = plain(3);
        y.pump(0, 2, 91, 0, 3);
        y.pipe(0, 1, 1, 10);
        fill(y, 0, 100);
        Check.same("a pump sees what pipes left", y.pumps(0), 0);
    }

    private static void pumpsThenGates() {
        StormPipes x = plain(2);
        x.gate(1, 4, 100);
        x.gate(0, 10, 100);
        x.pump(0, 1, 10, 0, 6);
        fill(x, 0, 15);
        Check.same("a gate sees what a pump brought", x.told(1, 3), 2);
        Check.same("and what it left", x.told(0, 3), 0);
    }

    private static void gatesThenGullies() {
        StormPipes x = new StormPipes(2);
        x.node(1, 0, 1);
        x.node(10, 0, 1);
        x.street(0, 0);
        x.area(1, 600, 0);
        fill(x, 0, 31);
        Check.same("full", x.told(1, 0), 10);
        x.gully(0, 1, 100);
        x.gate(1, 7, 100);
        x.run(1);
        Check.same("a gully fills what a gate freed", x.cell(0), 27);
        Check.same("and a gate does not take it", x.litres(3), 3);
        Check.same("full again", x.told(1, 0), 10);
    }

    private static void gulliesThenNodes() {
        StormPipes x = new StormPipes(2);
        x.node(5, 0, 1);
        x.node(100, 0, 1);
        x.street(0, 1);
        x.gully(1, 1, 100);
        fill(x, 0, 9);
        Check.same("a gully does not see this second's street", x.told(1, 0), 0);
        Check.same("the street", x.cell(1), 4);
        x.run(1);
        Check.same("but in the next second", x.told(1, 0), 4);
        Check.same("the street", x.cell(1), 0);
    }

    // Promise 10: "So many seconds (1 .. 600) pass: how many have passed."
    private static void runSeconds() {
        for (int seconds : Bounds.within(1, 600)) {
            StormPipes x = new StormPipes(1);
            Check.same("run(" + seconds + ")", x.run(seconds), seconds);
            Check.same("seconds", x.count(8), seconds);
            Check.same("run(" + seconds + ") again", x.run(seconds), 2 * seconds);
            Check.same("seconds", x.count(8), 2 * seconds);
        }
        Bounds.refusesBeyond("run", busy(), 1, 600, (x, v) -> x.run(v), -1);
        Bounds.isBad("run(-600)", busy(), x -> x.run(-600));
        StormPipes once = Bounds.busy();
        once.run(600);
        StormPipes often = Bounds.busy();
        for (int i = 0; i < 300; i++) {
            often.run(i % 3 + 1);
        }
        Check.same("a long run is as many short ones", Picture.now(once), Picture.now(often));
    }

    private static StormPipes passed(int seconds) {
        StormPipes x = Bounds.busy();
        x.rain(1_438, 1_000);
        x.rain(1_439, 3_000);
        pass(x, seconds - 30);
        return x;
    }

    // "BAD: also if there would be more than 86,400."
    private static void runUntilTheEnd() {
        int[][] ends = {{86_398, 1, 2}, {86_399, 1, 1}, {85_800, 599, 600}, {85_801, 598, 599}, {86_100, 299, 300}};
        for (int[] end : ends) {
            Check.same("run from " + end[0], passed(end[0]).run(end[1]), end[0] + end[1]);
            Check.same("run from " + end[0] + " to the end", passed(end[0]).run(end[2]), 86_400);
            Bounds.isBad("run beyond the end", () -> passed(end[0]), x -> x.run(end[2] + 1));
        }
        int[] more = {1, 2, 599, 600, 601, Bounds.MAX, Bounds.MIN, 0, -1};
        for (int seconds : more) {
            Bounds.isBad("run(" + seconds + ") at the end", () -> passed(86_400), x -> x.run(seconds));
        }
        StormPipes x = passed(86_000);
        Check.same("too many", x.run(401), -1);
        Check.same("just as many as are left", x.run(400), 86_400);
        Check.same("all have passed", x.count(8), 86_400);
    }

    private static void runWithoutNodes() {
        StormPipes x = new StormPipes(24);
        x.rain(0, 20_000);
        Check.same("run without nodes", x.run(600), 600);
        Check.same("nothing rained", x.litres(0), 0);
        Check.same("keeps()", x.keeps(), true);
    }

    // Promise 11: "- 2^40: none such."
    private static void toldNoneSuch() {
        for (int what = 0; what <= 3; what++) {
            int asked = what;
            Bounds.refusesBeyond("told's node", busy(), 0, 2, (x, v) -> x.told(v, asked), NOT_TOLD);
            for (int node = 0; node <= 2; node++) {
                int of = node;
                long due = Bounds.busy().told(node, what);
                Check.same("told(" + node + ", " + what + ") is such", due != NOT_TOLD, true);
                Bounds.changesNothing("told(" + node + ", " + what + ")", busy(), x -> x.told(of, asked), due);
            }
        }
        for (int node = 0; node <= 2; node++) {
            int of = node;
            Bounds.refusesBeyond("told's what", busy(), 0, 3, (x, v) -> x.told(of, v), NOT_TOLD);
        }
        Bounds.changesNothing("told without nodes", () -> new StormPipes(9), x -> x.told(0, 0), NOT_TOLD);
    }

    // "2 litres that were more than full so far, 3 litres that went out by gates there."
    private static void toldSoFar() {
        StormPipes x = new StormPipes(2);
        x.node(10, 0, 1);
        x.node(10, 0, 1);
        x.gate(0, 8, 1);
        x.gate(0, 8, 2);
        Bounds.rainLitres(x, 0, 9);
        // 9: 1 out; 17: 3 out, 4 over; then 19 each second: 3 out, 6 over.
        long[][] seconds = {{8, 0, 1}, {10, 4, 4}, {10, 10, 7}, {10, 16, 10}};
        for (long[] second : seconds) {
            x.run(1);
            Check.same("litres", x.told(0, 0), second[0]);
            Check.same("more than full so far", x.told(0, 2), second[1]);
            Check.same("by gates so far", x.told(0, 3), second[2]);
        }
        x.rain(0, 0);
        x.run(2);
        Check.same("litres in the dry", x.told(0, 0), 8);
        Check.same("more than full so far, in the dry", x.told(0, 2), 16);
        Check.same("by gates so far, in the dry", x.told(0, 3), 12);
        Check.same("another node was never more than full", x.told(1, 2), 0);
        Check.same("another node has no gates", x.told(1, 3), 0);
    }

    // Promise 12: "- 2^60: none such."
    private static void flowNoneSuch() {
        for (int what = 0; what <= 2; what++) {
            int asked = what;
            Bounds.refusesBeyond("flow's pipe", busy(), 0, 1, (x, v) -> x.flow(v, asked), NO_FLOW);
            for (int pipe = 0; pipe <= 1; pipe++) {
                int of = pipe;
                long due = Bounds.busy().flow(pipe, what);
                Check.same("flow(" + pipe + ", " + what + ") is such", due != NO_FLOW, true);
                Bounds.changesNothing("flow(" + pipe + ", " + what + ")", busy(), x -> x.flow(of, asked), due);
            }
        }
        for (int pipe = 0; pipe <= 1; pipe++) {
            int of = pipe;
            Bounds.refusesBeyond("flow's what", busy(), 0, 2, (x, v) -> x.flow(of, v), NO_FLOW);
        }
        Bounds.changesNothing("flow without pipes", () -> plain(3), x -> x.flow(0, 0), NO_FLOW);
    }

    // "0 in the last second, 1 in all (from its end to its beginning counts below 0)".
    private static void flowInTheLastSecond() {
        StormPipes x = plain(2);
        x.pipe(0, 1, 1, 10);
        Check.same("before the first second", x.flow(0, 0), 0);
        Check.same("before the first second, in all", x.flow(0, 1), 0);
        Check.same("before the first second, the rest", x.flow(0, 2), 0);
        fill(x, 0, 100);
        Check.same("in the first second", x.flow(0, 0), 10);
        // 90 against 10, then 82 against 18.
        x.run(2);
        Check.same("in the last second alone", x.flow(0, 0), 6);
        Check.same("in all", x.flow(0, 1), 24);
        x.pipe(1, 0, 1, 10);
        Check.same("a new pipe", x.flow(1, 0), 0);
        Check.same("an older one as before", x.flow(0, 0), 6);
        x.run(1);
        Check.same("its second", x.flow(1, 0), -5);
        // It gives from node 0 to node 1: 76 against 24 makes 5 and a rest of 200.
        Check.same("its rest", x.flow(1, 2), -200);
        Check.same("in all", x.flow(1, 1), -5);
    }

    // Promise 13.
    private static void cellNoneSuch() {
        Bounds.refusesBeyond("cell", busy(), 0, 7, (x, v) -> x.cell(v), -1);
        long[] due = {0, 0, 0, 0, Bounds.busy().cell(4), Bounds.busy().cell(5), 0, 0};
        for (int cell = 0; cell <= 7; cell++) {
            int asked = cell;
            Bounds.changesNothing("cell(" + cell + ")", busy(), x -> x.cell(asked), due[cell]);
        }
        Check.same("cell 4 is not empty", due[4] > 0, true);
        Check.same("cell 5 is not empty", due[5] > 0, true);
    }

    // Promise 14: "Whether a pump is on: 1, 0. BAD."
    private static void pumpsNoneSuch() {
        Bounds.refusesBeyond("pumps", busy(), 0, 1, (x, v) -> x.pumps(v), -1);
        Bounds.changesNothing("pumps(0)", busy(), x -> x.pumps(0), 1);
        Bounds.changesNothing("pumps(1)", busy(), x -> x.pumps(1), 1);
        Bounds.isBad("pumps without pumps", () -> plain(2), x -> x.pumps(0));
        StormPipes x = plain(2);
        for (int i = 0; i < 8; i++) {
            x.pump(0, 1, i, i - 1, 1);
        }
        fill(x, 0, 6);
        // Levels 6, 5, 4 and then 3, which is below 3 + 1 and not above 3.
        int[] on = {1, 1, 1, 1, 0, 0, 0, 0};
        for (int pump = 0; pump < 8; pump++) {
            Check.same("pumps(" + pump + ")", x.pumps(pump), on[pump]);
        }
        Check.same("pumps(8)", x.pumps(8), -1);
    }

    // Promise 15.
    private static void litresNoneSuch() {
        Bounds.refusesBeyond("litres", busy(), 0, 4, (x, v) -> x.litres(v), -1);
        for (int part = 0; part <= 4; part++) {
            int asked = part;
            long due = Bounds.busy().litres(part);
            Check.same("litres(" + part + ") is more than none", due > 0, true);
            Bounds.changesNothing("litres(" + part + ")", busy(), x -> x.litres(asked), due);
        }
    }

    // Promise 16.
    private static void keepsAtAllTimes() {
        StormPipes x = Bounds.busy();
        for (int i = 0; i < 60; i++) {
            x.run(i + 1);
            x.rain(x.count(8) / 60, i * 300);
            long kept = x.litres(1) + x.litres(2) + x.litres(3) + x.litres(4);
            Check.same("kept", kept, x.litres(0));
            Check.same("keeps()", x.keeps(), true);
        }
        Bounds.changesNothing("keeps()", busy(), y -> y.keeps() ? 1 : 0, 1);
    }

    // "An object is used for at most 512 calls after it has been made".
    private static void the512thCall() {
        StormPipes x = new StormPipes(1);
        for (int call = 1; call <= 512; call++) {
            Check.same("call " + call, x.rain(7, call), call - 1);
        }
        StormPipes y = Bounds.busy();
        for (int call = 26; call <= 512; call++) {
            y.run(call % 2 + 1);
        }
        Check.same("keeps() behind 512 calls", y.keeps(), true);
    }
}
