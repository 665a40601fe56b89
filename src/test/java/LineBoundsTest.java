import java.util.function.Supplier;

/** Each sentence on the line and the list, and of the promises 17 to 21, that names a bound: at it and on either side. */
public final class LineBoundsTest {
    private static final int NOT_LAID = -1_073_741_824;
    private static final int ENTRIES = 6;
    private static final int PIECES = 7;

    public static void main(String[] args) {
        listWidth();
        listWiderThanBefore();
        listPrice();
        listAtMost6();
        beginGround();
        beginBottom();
        beginIsRefused();
        beginAnew();
        pieceGround();
        pieceLength();
        pieceNeed();
        pieceAtMost10();
        pieceWithoutALine();
        layCover();
        layDig();
        layWithoutPieces();
        layWithoutEntries();
        fallIsAtLeast1();
        fallIsAtMost40();
        squareTimesFallMeetsTheNeed();
        needBeyondTheGreatestFall();
        coverAtTheBeginning();
        coverAtTheEnd();
        coverBetweenPieces();
        widthNotLessThanBefore();
        costOfAPiece();
        likeLinesByEntry();
        likeLinesByFall();
        likeLinesByTheFirstPiece();
        tenPiecesAllTheWayDown();
        laidNoneSuch();
        laidBeforeAnyWasLaid();
        laidWhenNoneWasFound();
        laidWhenTheListChanged();
        laidWhenTheLineChanged();
        laidStaysBehindRefusedCalls();
        laidStaysBehindOtherCalls();
        laidAsItWasLaidLast();
        Check.end();
    }

    private static Supplier<StormPipes> busy() {
        return Bounds::busy;
    }

    /** A list of one entry, and a line that has begun. */
    private static StormPipes begun(int width, int price, int ground, int bottom) {
        StormPipes x = new StormPipes(1);
        x.list(width, price);
        x.begin(ground, bottom);
        return x;
    }

    private static void isLaid(String what, StormPipes x, int k, int entry, int fall, int bottom) {
        Check.same(what + ": entry of " + k, x.laid(k, 0), entry);
        Check.same(what + ": fall of " + k, x.laid(k, 1), fall);
        Check.same(what + ": bottom of " + k, x.laid(k, 2), bottom);
    }

    private static void isNotLaid(String what, StormPipes x, int pieces) {
        for (int k = -1; k <= pieces; k++) {
            for (int asked = -1; asked <= 3; asked++) {
                Check.same(what + ": laid(" + k + ", " + asked + ")", x.laid(k, asked), NOT_LAID);
            }
        }
    }

    // Promise 17: "Width 10 .. 3,000".
    private static void listWidth() {
        Supplier<StormPipes> empty = () -> lined(new StormPipes(2));
        Bounds.adds("first entry's width", empty, ENTRIES, 10, 3_000, (x, v) -> x.list(v, 5));
        Bounds.adds("next entry's width", busy(), ENTRIES, 151, 3_000, (x, v) -> x.list(v, 5));
        for (int width : Bounds.within(10, 3_000)) {
            StormPipes x = begun(width, 1, 0, -width);
            x.piece(0, 1, 0);
            Check.same("width " + width + " fits just", x.lay(0, 0), 1);
            Check.same("width " + width + " has no cover", x.lay(1, 0), -2);
        }
    }

    private static StormPipes lined(StormPipes x) {
        x.node(5, 0, 1);
        x.node(5, 0, 1);
        x.begin(0, -2_500);
        x.piece(-10, 30, 2);
        return x;
    }

    // "wider than the one before".
    private static void listWiderThanBefore() {
        int[] widths = {10, 11, 500, 2_998, 2_999};
        for (int width : widths) {
            StormPipes x = new StormPipes(1);
            x.list(width, 5);
            Check.same("just wider than " + width, x.list(width + 1, 5), 1);
            Supplier<StormPipes> maker = () -> withEntry(width);
            Bounds.isBad("as wide as " + width, maker, y -> y.list(width, 4));
            Bounds.isBad("less wide than " + width, maker, y -> y.list(width - 1, 4));
        }
        Bounds.isBad("wider than the widest", () -> withEntry(3_000), x -> x.list(3_001, 4));
        Bounds.isBad("as wide as the widest", () -> withEntry(3_000), x -> x.list(3_000, 4));
        // It is the one before that counts, not the first one, and not one that was refused.
        StormPipes x = new StormPipes(1);
        x.list(100, 5);
        x.list(300, 5);
        Check.same("wider than the first alone", x.list(200, 5), -1);
        Check.same("too dear", x.list(400, 100_001), -1);
        Check.same("wider than the second", x.list(301, 5), 2);
    }

    private static StormPipes withEntry(int width) {
        StormPipes x = lined(new StormPipes(2));
        x.list(width, 5);
        x.lay(0, 1);
        return x;
    }

    private static void listPrice() {
        Bounds.adds("entry's price", busy(), ENTRIES, 0, 100_000, (x, v) -> x.list(200, v));
        for (int price : Bounds.within(0, 100_000)) {
            StormPipes x = begun(50, price, 0, -100);
            x.piece(0, 7, 0);
            Check.same("price " + price, x.lay(0, 0), 7L * price);
        }
    }

    private static void listAtMost6() {
        Bounds.addsAtMost("entry", busy(), ENTRIES, 6, x -> x.list(200 + x.count(ENTRIES), 9));
        Bounds.addsAtMost("first entries", () -> lined(new StormPipes(2)), ENTRIES, 6,
            x -> x.list(200 + x.count(ENTRIES), 9));
        StormPipes x = new StormPipes(1);
        for (int entry = 0; entry < 6; entry++) {
            x.list(100 + entry, 6 - entry);
        }
        x.list(2_000, 0);
        x.begin(0, -3_000);
        x.piece(0, 10, 0);
        Check.same("the sixth is the cheapest, a seventh there is none", x.lay(0, 0), 10);
        isLaid("the sixth", x, 0, 5, 1, -3_001);
    }

    // Promise 18: "Both - 100,000 .. 100,000."
    private static void beginGround() {
        for (int ground : Bounds.within(-100_000, 100_000)) {
            StormPipes x = begun(10, 1, ground, -100_000);
            x.piece(100_000, 1, 0);
            Check.same("ground " + ground, x.lay(0, 0), ground + 100_000 >= 10 ? 1 : -2);
        }
        Bounds.refusesBeyond("begin's ground", busy(), -100_000, 100_000, (x, v) -> x.begin(v, -500) ? 1 : 0, 0);
    }

    private static void beginBottom() {
        for (int bottom : Bounds.within(-100_000, 100_000)) {
            StormPipes x = new StormPipes(1);
            Check.same("bottom " + bottom, x.begin(100_000, bottom), true);
            x.list(10, 1);
            x.piece(100_000, 1, 0);
            boolean isDeep = bottom <= 99_990;
            Check.same("bottom " + bottom, x.lay(0, 0), isDeep ? 1 : -2);
            Check.same("bottom " + bottom, x.laid(0, 2), isDeep ? bottom - 1 : NOT_LAID);
        }
        Bounds.refusesBeyond("begin's bottom", busy(), -100_000, 100_000, (x, v) -> x.begin(0, v) ? 1 : 0, 0);
    }

    // "False: none such": nothing begins, neither a first line nor another one.
    private static void beginIsRefused() {
        StormPipes x = new StormPipes(1);
        Check.same("wrong begin", x.begin(100_001, 0), false);
        Check.same("no line has begun by it", x.piece(0, 1, 0), -1);
        Check.same("no pieces", x.count(PIECES), 0);
        Bounds.changesNothing("wrong first begin", () -> new StormPipes(3), y -> y.begin(0, -100_001) ? 1 : 0, 0);
        Bounds.changesNothing("both wrong", busy(), y -> y.begin(100_001, -100_001) ? 1 : 0, 0);
    }

    // "The line begins anew here, without pieces."
    private static void beginAnew() {
        StormPipes x = begun(100, 3, 0, -500);
        for (int i = 0; i < 10; i++) {
            x.piece(0, 5, 0);
        }
        Check.same("ten pieces", x.lay(0, 0), 150);
        Check.same("the same beginning", x.begin(0, -500), true);
        Check.same("without pieces", x.count(PIECES), 0);
        Check.same("without pieces", x.lay(0, 0), -1);
        Check.same("the list stays", x.count(ENTRIES), 1);
        for (int i = 0; i < 10; i++) {
            Check.same("ten pieces again", x.piece(0, 7, 0), i);
        }
        Check.same("an eleventh", x.piece(0, 7, 0), -1);
        Check.same("of the new line", x.lay(0, 0), 210);
        Check.same("begin", x.begin(50, -700), true);
        x.piece(0, 2, 1);
        Check.same("one piece", x.lay(0, 0), 6);
        isLaid("one piece", x, 0, 0, 1, -701);
        Check.same("no second one", x.laid(1, 0), NOT_LAID);
    }

    // Promise 19.
    private static void pieceGround() {
        Bounds.adds("piece's ground", busy(), PIECES, -100_000, 100_000, (x, v) -> x.piece(v, 20, 1));
        int[][] costs = {{100_000, 200_001}, {99_999, 200_000}, {-99_999, 2}, {-100_000, 1}};
        for (int[] cost : costs) {
            StormPipes x = begun(10, 0, 100_000, -100_000);
            x.piece(cost[0], 1, 0);
            long due = cost[1] >= 10 ? cost[1] : 10;
            Check.same("depth at ground " + cost[0], x.lay(0, 1), due);
        }
    }

    private static void pieceLength() {
        Bounds.adds("piece's length", busy(), PIECES, 1, 10_000, (x, v) -> x.piece(-55, v, 1));
        for (int length : Bounds.within(1, 10_000)) {
            StormPipes x = begun(100, 3, 0, -500);
            x.piece(0, length, 0);
            Check.same("length " + length, x.lay(0, 0), 3L * length);
        }
    }

    private static void pieceNeed() {
        Bounds.adds("piece's need", busy(), PIECES, 0, 10_000, (x, v) -> x.piece(-55, 20, v));
        int[][] needs = {{0, 1}, {1, 1}, {9_999, 10}, {10_000, 10}};
        for (int[] need : needs) {
            // 1,000 x 1,000 x fall against 1,000 x 1 x need.
            StormPipes x = begun(1_000, 3, 0, -5_000);
            x.piece(0, 1, need[0]);
            x.lay(0, 0);
            Check.same("fall for a need of " + need[0], x.laid(0, 1), need[1]);
        }
    }

    private static void pieceAtMost10() {
        Bounds.addsAtMost("piece", busy(), PIECES, 10, x -> x.piece(-60, 30, 2));
    }

    // "BAD: also if no line has begun."
    private static void pieceWithoutALine() {
        Bounds.isBad("piece without a line", () -> new StormPipes(3), x -> x.piece(0, 1, 0));
        StormPipes x = new StormPipes(1);
        Check.same("piece without a line", x.piece(0, 1, 0), -1);
        x.list(100, 1);
        Check.same("a list is no line", x.piece(0, 1, 0), -1);
        x.begin(0, 0);
        Check.same("piece of a line", x.piece(0, 1, 0), 0);
    }

    // Promise 20: "with a cover 0 .. 10,000".
    private static void layCover() {
        for (int cover : Bounds.within(0, 10_000)) {
            StormPipes x = begun(100, 3, 0, -100 - cover);
            x.piece(0, 5, 0);
            Check.same("cover " + cover + " just", x.lay(cover, 0), 15);
            StormPipes y = begun(100, 3, 0, -100 - cover + 1);
            y.piece(0, 5, 0);
            Check.same("cover " + cover + " not quite", y.lay(cover, 0), -2);
        }
        Bounds.refusesBeyond("lay's cover", busy(), 0, 10_000, (x, v) -> x.lay(v, 1), -1);
    }

    // "a dig 0 .. 1,000".
    private static void layDig() {
        for (int dig : Bounds.within(0, 1_000)) {
            StormPipes x = begun(100, 3, 0, -200);
            x.piece(10, 5, 0);
            Check.same("dig " + dig, x.lay(0, dig), 5 * (3 + dig * 211L));
        }
        Bounds.refusesBeyond("lay's dig", busy(), 0, 1_000, (x, v) -> x.lay(100, v), -1);
        Bounds.isBad("both wrong", busy(), x -> x.lay(-1, -1));
    }

    // "BAD: also if there are no pieces."
    private static void layWithoutPieces() {
        Bounds.isBad("lay without a line", () -> new StormPipes(3), x -> x.lay(0, 0));
        Bounds.isBad("lay without pieces", () -> begun(100, 3, 0, -500), x -> x.lay(0, 0));
        StormPipes x = begun(100, 3, 0, -500);
        Check.same("no pieces", x.lay(0, 0), -1);
        x.piece(0, 5, 0);
        Check.same("one piece", x.lay(0, 0), 15);
        x.begin(0, -500);
        Check.same("no pieces any more", x.lay(0, 0), -1);
    }

    // "- 2: there is none": without a list no piece gets an entry.
    private static void layWithoutEntries() {
        StormPipes x = new StormPipes(1);
        x.begin(0, -500);
        Check.same("neither pieces nor entries", x.lay(0, 0), -1);
        x.piece(0, 5, 0);
        Check.same("no entries", x.lay(0, 0), -2);
        isNotLaid("no entries", x, 1);
        Check.same("wrong cover without entries", x.lay(10_001, 0), -1);
        x.list(100, 3);
        Check.same("an entry", x.lay(0, 0), 15);
    }

    // "a FALL (1 .. 40), by which its bottom is lower at its end than at its beginning".
    private static void fallIsAtLeast1() {
        StormPipes x = begun(100, 3, 0, -500);
        x.piece(0, 5, 0);
        Check.same("no need, dear digging", x.lay(0, 1_000), 5 * (3 + 501_000L));
        isLaid("no need", x, 0, 0, 1, -501);
        // The ground falls by 1, 2 and 3, and the cover at the beginning is just met.
        for (int lower = 0; lower <= 3; lower++) {
            StormPipes y = begun(100, 3, 0, -500);
            y.piece(-lower, 5, 0);
            Check.same("ground lower by " + lower, y.lay(400, 0), 15);
            Check.same("ground lower by " + lower, y.laid(0, 1), Math.max(1, lower));
        }
    }

    private static void fallIsAtMost40() {
        for (int lower = 39; lower <= 42; lower++) {
            StormPipes x = begun(100, 3, 0, -500);
            x.piece(-lower, 5, 0);
            Check.same("ground lower by " + lower, x.lay(400, 0), lower <= 40 ? 15 : -2);
            Check.same("ground lower by " + lower, x.laid(0, 1), lower <= 40 ? lower : NOT_LAID);
            Check.same("ground lower by " + lower, x.laid(0, 2), lower <= 40 ? -500 - lower : NOT_LAID);
        }
    }

    // "the square of the width times the fall is at least 1,000 times the length times the need".
    private static void squareTimesFallMeetsTheNeed() {
        int[][] needs = {
            // 121 x 121 x 39 is 570,999; 123 x 123 x 31 is 468,999; 127 x 127 x 31 is 499,999.
            {121, 1, 571, 40}, {121, 1, 570, 39}, {123, 7, 67, 32}, {123, 1, 468, 31}, {127, 1, 500, 32},
            // 83 x 83 x 9 is 62,001; 167 x 167 x 9 is 251,001.
            {83, 1, 62, 9}, {83, 1, 63, 10}, {167, 251, 1, 9}, {167, 252, 1, 10},
            // 100 x 100 x fall is just as much.
            {100, 10, 1, 1}, {100, 10, 2, 2}, {100, 1, 10, 1}, {100, 1, 11, 2}, {100, 1, 9, 1}, {100, 10, 39, 39},
            {100, 1, 399, 40}, {100, 1, 400, 40}, {10, 1, 4, 40}, {10, 1, 3, 30}, {3_000, 10_000, 36, 40}};
        for (int[] n : needs) {
            StormPipes x = begun(n[0], 1, 0, -9_000);
            x.piece(0, n[1], n[2]);
            String what = "width " + n[0] + ", length " + n[1] + ", need " + n[2];
            Check.same(what, x.lay(0, 0), n[1]);
            Check.same(what + ": fall", x.laid(0, 1), n[3]);
        }
    }

    private static void needBeyondTheGreatestFall() {
        int[][] needs = {{100, 1, 401}, {100, 10, 41}, {10, 1, 5}, {10, 2, 3}, {3_000, 10_000, 37}, {10, 10_000, 10_000}};
        for (int[] n : needs) {
            StormPipes x = begun(n[0], 1, 0, -9_000);
            x.piece(0, n[1], n[2]);
            String what = "width " + n[0] + ", length " + n[1] + ", need " + n[2];
            Check.same(what, x.lay(0, 0), -2);
            isNotLaid(what, x, 1);
        }
    }

    // "ground less bottom is at least COVER and the width together, at both ends".
    private static void coverAtTheBeginning() {
        for (int depth = 298; depth <= 302; depth++) {
            StormPipes x = begun(100, 3, 70, 70 - depth);
            x.piece(1_000, 5, 0);
            Check.same("depth " + depth + " at the beginning", x.lay(200, 0), depth >= 300 ? 15 : -2);
            StormPipes y = begun(100, 3, -70, -70 - depth);
            y.list(101, 1);
            y.piece(1_000, 5, 0);
            long due = depth >= 301 ? 5 : depth >= 300 ? 15 : -2;
            Check.same("depth " + depth + " at the beginning, two entries", y.lay(200, 0), due);
        }
    }

    private static void coverAtTheEnd() {
        for (int ground = -43; ground <= 3; ground++) {
            StormPipes x = begun(100, 3, 1_000, -300);
            x.piece(ground, 5, 0);
            int fall = Math.max(1, -ground);
            Check.same("ground " + ground + " at the end", x.lay(200, 0), fall <= 40 ? 15 : -2);
            Check.same("ground " + ground + " at the end: fall", x.laid(0, 1), fall <= 40 ? fall : NOT_LAID);
        }
    }

    private static void coverBetweenPieces() {
        // The second piece is to be wider: at its beginning its own width counts, by the first one's fall.
        for (int width = 110; width <= 142; width++) {
            StormPipes x = begun(100, 3, 0, -300);
            x.list(width, 2);
            x.piece(0, 5, 0);
            // 100 x 100 x 40 is below 1,000 x 5 x 81.
            x.piece(100, 5, 81);
            int fall = width - 100;
            boolean fits = fall <= 40;
            Check.same("width " + width + " from the second piece on", x.lay(200, 0), fits ? 25 : -2);
            Check.same("width " + width + ": fall before it", x.laid(0, 1), fits ? fall : NOT_LAID);
            Check.same("width " + width + ": entry before it", x.laid(0, 0), fits ? 0 : NOT_LAID);
            Check.same("width " + width + ": entry", x.laid(1, 0), fits ? 1 : NOT_LAID);
        }
    }

    // "the width is not less than that of the piece before."
    private static void widthNotLessThanBefore() {
        int[][] needs = {{0, 0, 0, 0}, {0, 30, 0, 1}, {30, 0, 1, 1}, {30, 30, 1, 1}, {0, 90, 0, 2}, {90, 0, 2, 2}, {30, 90, 1, 2},
            {90, 30, 2, 2}};
        int[] prices = {1, 2, 5};
        for (int[] n : needs) {
            StormPipes x = begun(100, 1, 0, -3_000);
            x.list(200, 2);
            x.list(300, 5);
            // 10,000 x 40 carry 20 of a length of 20, 40,000 x 40 carry 80, 90,000 x 40 carry 180.
            x.piece(0, 20, n[0]);
            x.piece(0, 20, n[1]);
            String what = "needs " + n[0] + ", " + n[1];
            Check.same(what, x.lay(0, 0), 20 * (prices[n[2]] + prices[n[3]]));
            Check.same(what + ": first", x.laid(0, 0), n[2]);
            Check.same(what + ": second", x.laid(1, 0), n[3]);
        }
    }

    // "A piece COSTS its length times (the price, and DIG times (ground less bottom at its end))."
    private static void costOfAPiece() {
        int[][] pieces = {{0, 1, 0, 0, 0}, {0, 1, 0, 1, 501}, {9, 1, 7, 1, 517}, {-9, 3, 7, 2, 3 * (7 + 2 * 492)},
            {-400, 3, 7, 2, 3 * (7 + 2 * 101)}, {-401, 3, 7, 2, 3 * (7 + 2 * 100)}, {-402, 3, 7, 2, 3 * (7 + 2 * 100)}};
        for (int[] p : pieces) {
            StormPipes x = begun(100, p[2], 0, -500);
            x.piece(p[0], p[1], 0);
            Check.same("ground " + p[0] + ", price " + p[2] + ", dig " + p[3], x.lay(0, p[3]), p[4]);
        }
        StormPipes x = begun(10, 100_000, 100_000, -100_000);
        for (int i = 0; i < 10; i++) {
            x.piece(100_000, 10_000, 0);
        }
        // The depths are 200,001 to 200,010.
        Check.same("the dearest", x.lay(10_000, 1_000), 10_000L * (10L * 100_000 + 1_000L * 2_000_055));
    }

    // "The BEST line costs least; of like ones the lesser entry, then the lesser fall".
    private static void likeLinesByEntry() {
        for (int price = 9; price <= 11; price++) {
            StormPipes x = begun(100, 10, 0, -500);
            x.list(200, price);
            x.piece(0, 5, 0);
            Check.same("price " + price + " against 10", x.lay(0, 0), 5 * Math.min(10, price));
            Check.same("price " + price + " against 10", x.laid(0, 0), price < 10 ? 1 : 0);
        }
        // The wider one has a fall of 4 in place of 13: at a price that is more by 9 both cost alike.
        for (int price = 18; price <= 20; price++) {
            StormPipes x = begun(100, 10, 0, -500);
            x.list(200, price);
            x.piece(0, 1, 130);
            boolean isWider = price < 19;
            Check.same("price " + price, x.lay(1, 1), isWider ? 522 : 523);
            Check.same("price " + price + ": entry", x.laid(0, 0), isWider ? 1 : 0);
            Check.same("price " + price + ": fall", x.laid(0, 1), isWider ? 4 : 13);
        }
    }

    private static void likeLinesByFall() {
        for (int need = 0; need <= 40; need++) {
            StormPipes x = begun(100, 10, 0, -500);
            x.piece(0, 10, need);
            x.lay(0, 0);
            // Without digging all falls cost alike.
            Check.same("the least fall for " + need, x.laid(0, 1), Math.max(1, need));
        }
    }

    private static void likeLinesByTheFirstPiece() {
        for (int lower = 2; lower <= 81; lower++) {
            StormPipes x = begun(100, 10, 0, -500);
            x.piece(500, 10, 0);
            x.piece(-lower, 10, 0);
            Check.same("lower by " + lower, x.lay(400, 0), lower <= 80 ? 200 : -2);
            int first = Math.max(1, lower - 40);
            Check.same("first fall", x.laid(0, 1), lower <= 80 ? first : NOT_LAID);
            Check.same("second fall", x.laid(1, 1), lower <= 80 ? lower - first : NOT_LAID);
        }
        // The first piece takes the lesser entry, even where the second one then takes the wider.
        StormPipes x = begun(100, 10, 0, -500);
        x.list(101, 10);
        x.piece(0, 10, 0);
        x.piece(0, 10, 40);
        Check.same("like ones", x.lay(0, 0), 200);
        isLaid("like ones", x, 0, 0, 1, -501);
        isLaid("like ones", x, 1, 0, 40, -541);
        StormPipes y = begun(100, 10, 0, -500);
        y.list(101, 10);
        y.piece(0, 10, 0);
        y.piece(0, 1, 408);
        Check.same("like ones", y.lay(0, 0), 110);
        isLaid("like ones", y, 0, 0, 1, -501);
        isLaid("like ones", y, 1, 1, 40, -541);
    }

    private static void tenPiecesAllTheWayDown() {
        for (int lower = 399; lower <= 401; lower++) {
            StormPipes x = begun(100, 1, 0, -500);
            for (int i = 0; i < 9; i++) {
                x.piece(0, 1, 0);
            }
            x.piece(-lower, 1, 0);
            boolean fits = lower <= 400;
            Check.same("ten pieces down by " + lower, x.lay(400, 0), fits ? 10 : -2);
            for (int k = 0; k < 10; k++) {
                int fall = k == 0 ? lower - 360 : 40;
                Check.same("fall of " + k, x.laid(k, 1), fits ? fall : NOT_LAID);
                Check.same("bottom of " + k, x.laid(k, 2), fits ? -500 - lower + 40 * (9 - k) : NOT_LAID);
            }
        }
    }

    // Promise 21: "- 2^30: none such".
    private static void laidNoneSuch() {
        for (int what = 0; what <= 2; what++) {
            int asked = what;
            Bounds.refusesBeyond("laid's piece", busy(), 0, 1, (x, v) -> x.laid(v, asked), NOT_LAID);
            for (int k = 0; k <= 1; k++) {
                int of = k;
                int due = Bounds.busy().laid(k, what);
                Check.same("laid(" + k + ", " + what + ") is such", due != NOT_LAID, true);
                Bounds.changesNothing("laid(" + k + ", " + what + ")", busy(), x -> x.laid(of, asked), due);
            }
        }
        for (int k = 0; k <= 1; k++) {
            int of = k;
            Bounds.refusesBeyond("laid's what", busy(), 0, 2, (x, v) -> x.laid(of, v), NOT_LAID);
        }
        StormPipes x = begun(100, 1, 0, -500);
        for (int i = 0; i < 10; i++) {
            x.piece(0, 1, 0);
        }
        x.lay(0, 0);
        isLaid("the last piece", x, 9, 0, 1, -510);
        Check.same("behind the last piece", x.laid(10, 0), NOT_LAID);
    }

    private static void laidBeforeAnyWasLaid() {
        StormPipes x = new StormPipes(1);
        isNotLaid("new object", x, 1);
        x.list(100, 10);
        isNotLaid("a list", x, 1);
        x.begin(0, -500);
        isNotLaid("a line without pieces", x, 1);
        x.piece(0, 5, 0);
        isNotLaid("a line with a piece", x, 1);
        x.lay(-1, 0);
        x.lay(0, 1_001);
        isNotLaid("a refused lay", x, 1);
        x.lay(0, 0);
        isLaid("a line that is laid", x, 0, 0, 1, -501);
    }

    // "none was found".
    private static void laidWhenNoneWasFound() {
        StormPipes x = begun(100, 10, 0, -500);
        x.piece(0, 5, 0);
        x.lay(400, 0);
        isLaid("just enough cover", x, 0, 0, 1, -501);
        Check.same("too much cover", x.lay(401, 0), -2);
        isNotLaid("too much cover", x, 1);
        Check.same("a wrong cover", x.lay(10_001, 0), -1);
        isNotLaid("still none", x, 1);
        x.lay(400, 0);
        isLaid("found again", x, 0, 0, 1, -501);
    }

    // "or the line or the list changed since."
    private static void laidWhenTheListChanged() {
        StormPipes x = Bounds.busy();
        Check.same("an entry more", x.list(151, 100_000), 2);
        isNotLaid("the list changed", x, 2);
        x.lay(300, 2);
        isLaid("laid again", x, 0, 1, 2, -1_202);
    }

    private static void laidWhenTheLineChanged() {
        StormPipes x = Bounds.busy();
        Check.same("a piece more", x.piece(-60, 30, 0), 2);
        isNotLaid("the line changed", x, 3);
        x.lay(300, 2);
        isLaid("laid again", x, 0, 1, 2, -1_202);
        Check.same("the same beginning", x.begin(0, -1_200), true);
        isNotLaid("the line began anew", x, 3);
        Check.same("no pieces", x.lay(300, 2), -1);
        isNotLaid("no pieces", x, 3);
        x.piece(-50, 40, 1);
        isNotLaid("a piece more", x, 3);
        x.lay(300, 2);
        isLaid("laid again", x, 0, 1, 2, -1_202);
        Check.same("only one piece", x.laid(1, 0), NOT_LAID);
    }

    private static void laidStaysBehindRefusedCalls() {
        StormPipes x = Bounds.busy();
        x.list(150, 1);
        x.list(3_001, 1);
        x.list(200, -1);
        x.begin(0, 100_001);
        x.begin(-100_001, 0);
        x.piece(100_001, 1, 0);
        x.piece(0, 0, 0);
        x.piece(0, 1, 10_001);
        x.lay(10_001, 0);
        x.lay(0, -1);
        isLaid("behind refused calls", x, 0, 1, 2, -1_202);
        isLaid("behind refused calls", x, 1, 1, 27, -1_229);
        StormPipes full = begun(100, 1, 0, -3_000);
        for (int i = 1; i < 6; i++) {
            full.list(100 + i, 1);
        }
        for (int i = 0; i < 10; i++) {
            full.piece(0, 1, 0);
        }
        full.lay(0, 0);
        Check.same("an entry beyond the sixth", full.list(200, 1), -1);
        Check.same("a piece beyond the tenth", full.piece(0, 1, 0), -1);
        isLaid("behind entries and pieces without room", full, 9, 0, 1, -3_010);
    }

    private static void laidStaysBehindOtherCalls() {
        StormPipes x = Bounds.busy();
        x.node(1, 0, 1);
        x.pipe(0, 3, 1, 10);
        x.area(3, 1, 0);
        x.rain(0, 0);
        x.pump(3, 0, 1, 0, 1);
        x.gate(3, 0, 1);
        x.gully(0, 3, 1);
        x.street(3, 0);
        x.run(1);
        x.told(0, 0);
        x.count(7);
        isLaid("behind other calls", x, 0, 1, 2, -1_202);
        isLaid("behind other calls", x, 1, 1, 27, -1_229);
    }

    // "as it was laid last".
    private static void laidAsItWasLaidLast() {
        StormPipes x = begun(100, 1, 0, -500);
        x.piece(-10, 5, 0);
        x.lay(0, 0);
        isLaid("with no cover", x, 0, 0, 1, -501);
        x.lay(400, 0);
        isLaid("with a cover", x, 0, 0, 10, -510);
        x.lay(395, 0);
        isLaid("with less cover", x, 0, 0, 5, -505);
        StormPipes y = begun(100, 10, 0, -500);
        y.list(200, 18);
        y.piece(0, 1, 130);
        y.lay(0, 0);
        isLaid("without digging", y, 0, 0, 13, -513);
        y.lay(0, 1);
        isLaid("with digging", y, 0, 1, 4, -504);
    }
}
