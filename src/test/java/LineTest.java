/** Promises 17 to 21: the list, the line, and the best line, by hand. */
public final class LineTest {
    private static final int NOT_LAID = -1_073_741_824;
    private static final int MIN = Integer.MIN_VALUE;
    private static final int MAX = Integer.MAX_VALUE;

    public static void main(String[] args) {
        promise17();
        promise18();
        promise19();
        promise20Wrong();
        promise20Cover();
        promise20Need();
        promise20Widths();
        promise20Likes();
        promise20GreatNumbers();
        promise21();
        promise21Changes();
        Check.end();
    }

    private static void promise17() {
        StormPipes x = new StormPipes(1);
        int[][] wrong = {
            {9, 1}, {3_001, 1}, {MIN, 1}, {MAX, 1}, {-10, 1}, {10, -1}, {10, 100_001}, {10, MIN}, {10, MAX}};
        for (int[] w : wrong) {
            Check.same("list(" + w[0] + ", " + w[1] + ")", x.list(w[0], w[1]), -1);
        }
        Check.same("no entry came", x.count(6), 0);
        Check.same("narrowest", x.list(10, 100_000), 0);
        Check.same("as wide", x.list(10, 5), -1);
        Check.same("wider, cheaper", x.list(11, 0), 1);
        Check.same("less wide", x.list(10, 5), -1);
        for (int i = 2; i < 5; i++) {
            Check.same("an entry more", x.list(100 * i, i), i);
        }
        Check.same("widest", x.list(3_000, 7), 5);
        Check.same("entries", x.count(6), 6);
        StormPipes y = new StormPipes(1);
        for (int i = 0; i < 6; i++) {
            Check.same("an entry more", y.list(100 + i, i), i);
        }
        Check.same("7th entry", y.list(200, 1), -1);
        Check.same("entries", y.count(6), 6);
    }

    private static void promise18() {
        StormPipes x = new StormPipes(1);
        int[][] wrong = {
            {100_001, 0}, {-100_001, 0}, {0, 100_001}, {0, -100_001}, {MIN, 0}, {0, MIN}, {MAX, 0}, {0, MAX}};
        for (int[] w : wrong) {
            Check.same("begin(" + w[0] + ", " + w[1] + ")", x.begin(w[0], w[1]), false);
        }
        Check.same("no line has begun", x.piece(0, 1, 0), -1);
        Check.same("begin", x.begin(100_000, -100_000), true);
        Check.same("bottom above the ground", x.begin(-100_000, 100_000), true);
        Check.same("a piece", x.piece(0, 1, 0), 0);
        Check.same("wrong begin", x.begin(0, 100_001), false);
        Check.same("nothing changed", x.count(7), 1);
        Check.same("begin", x.begin(0, 0), true);
        Check.same("without pieces", x.count(7), 0);
        Check.same("a piece", x.piece(0, 1, 0), 0);
    }

    private static void promise19() {
        StormPipes x = new StormPipes(1);
        Check.same("no line has begun", x.piece(0, 1, 0), -1);
        x.begin(0, -500);
        int[][] wrong = {
            {100_001, 1, 0}, {-100_001, 1, 0}, {MIN, 1, 0}, {MAX, 1, 0}, {0, 0, 0}, {0, -1, 0}, {0, 10_001, 0},
            {0, MAX, 0}, {0, 1, -1}, {0, 1, 10_001}, {0, 1, MIN}, {0, 1, MAX}};
        for (int[] w : wrong) {
            Check.same("piece(" + w[0] + ", " + w[1] + ", " + w[2] + ")", x.piece(w[0], w[1], w[2]), -1);
        }
        Check.same("no piece came", x.count(7), 0);
        Check.same("least", x.piece(-100_000, 1, 0), 0);
        Check.same("largest", x.piece(100_000, 10_000, 10_000), 1);
        for (int i = 2; i < 10; i++) {
            Check.same("a piece more", x.piece(0, i, i), i);
        }
        Check.same("11th piece", x.piece(0, 1, 0), -1);
        Check.same("pieces", x.count(7), 10);
    }

    private static void promise20Wrong() {
        StormPipes x = new StormPipes(1);
        x.list(100, 10);
        Check.same("no line has begun", x.lay(0, 0), -1);
        x.begin(0, -500);
        Check.same("no pieces", x.lay(0, 0), -1);
        x.piece(0, 10, 0);
        int[][] wrong = {{-1, 0}, {10_001, 0}, {MIN, 0}, {MAX, 0}, {0, -1}, {0, 1_001}, {0, MIN}, {0, MAX}};
        for (int[] w : wrong) {
            Check.same("lay(" + w[0] + ", " + w[1] + ")", x.lay(w[0], w[1]), -1);
        }
        Check.same("lay(0, 0)", x.lay(0, 0), 100);
        Check.same("lay(0, 1_000)", x.lay(0, 1_000), 10 * (10 + 1_000 * 501));
        Check.same("lay(10_000, 0)", x.lay(10_000, 0), -2);
        StormPipes empty = new StormPipes(1);
        empty.begin(0, -500);
        empty.piece(0, 10, 0);
        Check.same("an empty list", empty.lay(0, 0), -2);
        Check.same("none was found", empty.laid(0, 0), NOT_LAID);
    }

    private static void promise20Cover() {
        StormPipes x = new StormPipes(1);
        x.list(100, 1);
        x.begin(0, -300);
        x.piece(-20, 10, 0);
        Check.same("cover at the end by a fall of 1", x.lay(181, 0), 10);
        Check.same("fall", x.laid(0, 1), 1);
        Check.same("cover at the end by a fall of 20", x.lay(200, 0), 10);
        Check.same("fall", x.laid(0, 1), 20);
        Check.same("bottom", x.laid(0, 2), -320);
        Check.same("too much cover at the beginning", x.lay(201, 0), -2);
        x.begin(0, -300);
        x.piece(-41, 10, 0);
        Check.same("a fall of 40", x.lay(199, 0), 10);
        Check.same("fall", x.laid(0, 1), 40);
        Check.same("would need 41", x.lay(200, 0), -2);
        // The second piece's beginning is the first one's end: its own width counts there.
        x.list(150, 0);
        x.begin(0, -250);
        x.piece(0, 10, 0);
        x.piece(0, 10, 0);
        Check.same("the wider one from the second piece on", x.lay(130, 0), 10);
        Check.same("first entry", x.laid(0, 0), 0);
        Check.same("first fall", x.laid(0, 1), 30);
        Check.same("second entry", x.laid(1, 0), 1);
        Check.same("second fall", x.laid(1, 1), 1);
    }

    private static void promise20Need() {
        StormPipes x = new StormPipes(1);
        x.list(100, 1);
        x.begin(0, -3_000);
        // 10,000 x fall against 1,000 x 10 x need: a fall of as much as the need.
        x.piece(0, 10, 7);
        Check.same("need", x.lay(0, 0), 10);
        Check.same("fall", x.laid(0, 1), 7);
        x.begin(0, -3_000);
        x.piece(0, 10, 40);
        x.lay(0, 0);
        Check.same("the greatest fall", x.laid(0, 1), 40);
        x.begin(0, -3_000);
        x.piece(0, 10, 41);
        Check.same("too much need", x.lay(0, 0), -2);
        // 101 x 101 x 40 is 408,040, below 410,000; 102 x 102 x 40 is 416,160, x 39 is 405,756.
        x.list(101, 5);
        Check.same("too much need", x.lay(0, 0), -2);
        x.list(102, 6);
        Check.same("wide enough", x.lay(0, 0), 60);
        Check.same("entry", x.laid(0, 0), 2);
        Check.same("fall", x.laid(0, 1), 40);
        // 1,000 x 10,000 x 36 is 3,000 x 3,000 x 40, just.
        x.list(3_000, 9);
        x.begin(0, -9_000);
        x.piece(0, 10_000, 36);
        Check.same("just enough", x.lay(0, 0), 90_000);
        x.begin(0, -9_000);
        x.piece(0, 10_000, 37);
        Check.same("too much need for the widest", x.lay(0, 0), -2);
        // 123 x 123 x 31 is 468,999, one less than 1,000 x 7 x 67.
        StormPipes y = new StormPipes(1);
        y.list(123, 1);
        y.begin(0, -3_000);
        y.piece(0, 7, 67);
        Check.same("need", y.lay(0, 0), 7);
        Check.same("one short is short", y.laid(0, 1), 32);
    }

    private static void promise20Widths() {
        StormPipes x = new StormPipes(1);
        x.list(100, 10);
        x.list(200, 25);
        x.list(300, 40);
        x.begin(0, -2_000);
        // The first piece needs 200 or wider, so the others are not narrower.
        x.piece(0, 10, 100);
        x.piece(0, 10, 0);
        x.piece(0, 10, 0);
        Check.same("not narrower", x.lay(0, 0), 750);
        for (int k = 0; k < 3; k++) {
            Check.same("entry", x.laid(k, 0), 1);
        }
        x.begin(0, -2_000);
        x.piece(0, 10, 0);
        x.piece(0, 10, 100);
        x.piece(0, 10, 0);
        Check.same("wider from the second on", x.lay(0, 0), 600);
        Check.same("first", x.laid(0, 0), 0);
        Check.same("second", x.laid(1, 0), 1);
        Check.same("third", x.laid(2, 0), 1);
    }

    private static void promise20Likes() {
        StormPipes x = new StormPipes(1);
        x.list(100, 10);
        x.list(200, 10);
        x.begin(0, -2_000);
        x.piece(0, 10, 3);
        x.piece(0, 10, 5);
        // All falls cost alike: the lesser entry comes before the lesser fall.
        Check.same("like ones", x.lay(0, 0), 200);
        Check.same("lesser entry", x.laid(0, 0), 0);
        Check.same("its least fall", x.laid(0, 1), 3);
        Check.same("lesser entry", x.laid(1, 0), 0);
        Check.same("its least fall", x.laid(1, 1), 5);
        // A drop of 60 is needed at the end: the first fall is the least that the second one allows.
        x.begin(0, -250);
        x.piece(0, 10, 0);
        x.piece(-60, 10, 0);
        Check.same("like ones", x.lay(150, 0), 200);
        Check.same("first fall", x.laid(0, 1), 20);
        Check.same("second fall", x.laid(1, 1), 40);
    }

    private static void promise20GreatNumbers() {
        StormPipes x = new StormPipes(1);
        x.list(10, 100_000);
        x.begin(100_000, -100_000);
        for (int i = 0; i < 10; i++) {
            x.piece(100_000, 10_000, 0);
        }
        long due = 0;
        for (int i = 1; i <= 10; i++) {
            due += 10_000L * (100_000 + 1_000L * (200_000 + i));
        }
        Check.same("the dearest line", x.lay(10_000, 1_000), due);
        Check.same("bottom below all heights", x.laid(9, 2), -100_010);
        x.begin(-100_000, 100_000);
        x.piece(-100_000, 10_000, 10_000);
        Check.same("above the ground", x.lay(0, 0), -2);
    }

    private static void promise21() {
        StormPipes x = new StormPipes(1);
        Check.same("nothing laid", x.laid(0, 0), NOT_LAID);
        x.list(100, 10);
        x.begin(50, -1_000);
        x.piece(60, 10, 2);
        x.piece(70, 10, 3);
        Check.same("not yet laid", x.laid(0, 0), NOT_LAID);
        Check.same("lay(0, 1)", x.lay(0, 1), 10 * (10 + 1_062) + 10 * (10 + 1_075));
        int[][] due = {{0, 2, -1_002}, {0, 3, -1_005}};
        for (int k = 0; k < 2; k++) {
            for (int what = 0; what < 3; what++) {
                Check.same("laid(" + k + ", " + what + ")", x.laid(k, what), due[k][what]);
            }
        }
        int[] wrong = {-1, 2, 9, 10, MIN, MAX};
        for (int k : wrong) {
            Check.same("laid(" + k + ", 0)", x.laid(k, 0), NOT_LAID);
        }
        int[] wrongWhats = {-1, 3, MIN, MAX};
        for (int what : wrongWhats) {
            Check.same("laid(0, " + what + ")", x.laid(0, what), NOT_LAID);
        }
    }

    private static void promise21Changes() {
        StormPipes x = new StormPipes(1);
        x.list(100, 10);
        x.begin(0, -1_000);
        x.piece(0, 10, 2);
        x.lay(0, 1);
        x.list(100, 5);
        x.piece(0, 0, 0);
        x.begin(0, 100_001);
        x.lay(-1, 0);
        x.lay(0, 1_001);
        Check.same("what is BAD changes nothing", x.laid(0, 1), 2);
        x.list(200, 5);
        Check.same("the list changed", x.laid(0, 1), NOT_LAID);
        x.lay(0, 0);
        Check.same("laid again", x.laid(0, 0), 1);
        x.lay(10_000, 0);
        Check.same("none was found", x.laid(0, 0), NOT_LAID);
        x.lay(0, 0);
        Check.same("laid again", x.laid(0, 0), 1);
        x.piece(0, 10, 2);
        Check.same("the line changed", x.laid(0, 0), NOT_LAID);
        x.lay(0, 0);
        Check.same("laid again", x.laid(1, 0), 1);
        x.begin(0, -1_000);
        Check.same("the line began anew", x.laid(0, 0), NOT_LAID);
        Check.same("no pieces", x.lay(0, 0), -1);
        x.piece(0, 10, 2);
        Check.same("not laid again yet", x.laid(0, 0), NOT_LAID);
        x.lay(0, 0);
        Check.same("laid again", x.laid(0, 0), 1);
        Check.same("only one piece now", x.laid(1, 0), NOT_LAID);
        x.node(1, 0, 1);
        x.run(1);
        Check.same("nodes and seconds are no line", x.laid(0, 0), 1);
    }
}
