import java.util.ArrayList;

/**
 * Drains: rain, manholes, pipes, pumps, gates, gullies and flooded streets, second by second in
 * whole litres; and the least cost at which a line of pipes can be laid.
 */
public final class StormPipes {
    public static final int BAD = -1;

    private static final int MOST_NODES = 24;
    private static final int MOST_PIPES = 40;
    private static final int MOST_AREAS = 24;
    private static final int MOST_PUMPS = 8;
    private static final int MOST_GATES = 8;
    private static final int MOST_GULLIES = 8;
    private static final int CELLS = 8;
    private static final int MINUTES = 1_440;
    private static final int MOST_SECONDS = 86_400;
    private static final int MOST_ENTRIES = 6;
    private static final int MOST_PIECES = 10;
    private static final int MOST_FALL = 40;

    private static final int HIGHEST = 100_000;
    private static final int LONGEST = 10_000;
    private static final int NARROWEST = 10;
    private static final int WIDEST = 3_000;

    /** Squares times thousandths of a millimetre a minute times thousandths, for a litre a second. */
    private static final long RAIN_OF_A_LITRE = 60_000_000L;

    private static final int NO_STREET = -1;
    private static final int NO_PLACE = -2;
    private static final int NO_LINE = -2;
    private static final int NOT_LAID = -(1 << 30);
    private static final long NOT_TOLD = -(1L << 40);
    private static final long NO_FLOW = -(1L << 60);

    /** Far above what any line costs, and far enough below the end of long that costs may be added. */
    private static final long UNLAYABLE = 1L << 60;

    private final int nodeLimit;
    private final ArrayList<Node> nodes = new ArrayList<>();
    private final ArrayList<Pipe> pipes = new ArrayList<>();
    private final ArrayList<Area> areas = new ArrayList<>();
    private final ArrayList<Pump> pumps = new ArrayList<>();
    private final ArrayList<Gate> gates = new ArrayList<>();
    private final ArrayList<Gully> gullies = new ArrayList<>();
    private final int[] rains = new int[MINUTES];
    private final long[] cells = new long[CELLS];
    private final Line line = new Line();
    private int seconds;
    private long rained;
    private long out;
    private long outside;

    public StormPipes(int nodes) {
        nodeLimit = Math.max(1, Math.min(MOST_NODES, nodes));
    }

    public int node(int ground, int bottom, int room) {
        if (nodes.size() >= nodeLimit || !isHeight(ground) || !isHeight(bottom)) {
            return BAD;
        }
        if (bottom >= ground || !isWithin(room, 1, 100_000)) {
            return BAD;
        }
        nodes.add(new Node(ground, bottom, room));
        return nodes.size() - 1;
    }

    public int pipe(int from, int to, int length, int width) {
        if (pipes.size() >= MOST_PIPES || !areTwoNodes(from, to)) {
            return BAD;
        }
        if (!isWithin(length, 1, LONGEST) || !isWithin(width, NARROWEST, WIDEST)) {
            return BAD;
        }
        pipes.add(new Pipe(nodes.get(from), nodes.get(to), length, width));
        return pipes.size() - 1;
    }

    public int area(int node, int squares, int loss) {
        if (areas.size() >= MOST_AREAS || !isNode(node)) {
            return BAD;
        }
        if (!isWithin(squares, 1, 1_000_000) || !isWithin(loss, 0, 1_000)) {
            return BAD;
        }
        areas.add(new Area(nodes.get(node), squares, loss));
        return areas.size() - 1;
    }

    public int rain(int minute, int v) {
        if (!isWithin(minute, 0, MINUTES - 1) || !isWithin(v, 0, 20_000)) {
            return BAD;
        }
        int before = rains[minute];
        rains[minute] = v;
        return before;
    }

    public int pump(int node, int to, int on, int off, int rate) {
        if (pumps.size() >= MOST_PUMPS || !areTwoNodes(node, to)) {
            return BAD;
        }
        if (on <= off || !isWithin(rate, 1, 100_000)) {
            return BAD;
        }
        pumps.add(new Pump(nodes.get(node), nodes.get(to), on, off, rate));
        return pumps.size() - 1;
    }

    public int gate(int node, int height, int rate) {
        if (gates.size() >= MOST_GATES || !isNode(node)) {
            return BAD;
        }
        if (!isWithin(height, 0, 200_000) || !isWithin(rate, 1, 1_000_000)) {
            return BAD;
        }
        gates.add(new Gate(nodes.get(node), height, rate));
        return gates.size() - 1;
    }

    public int gully(int cell, int node, int rate) {
        if (gullies.size() >= MOST_GULLIES || !isCell(cell) || !isNode(node)) {
            return BAD;
        }
        if (!isWithin(rate, 1, 100_000)) {
            return BAD;
        }
        gullies.add(new Gully(cell, nodes.get(node), rate));
        return gullies.size() - 1;
    }

    public int street(int node, int cell) {
        if (!isNode(node) || (cell != NO_STREET && !isCell(cell))) {
            return NO_PLACE;
        }
        Node changed = nodes.get(node);
        int before = changed.street;
        changed.street = cell;
        return before;
    }

    public int run(int seconds) {
        if (!isWithin(seconds, 1, 600) || this.seconds + seconds > MOST_SECONDS) {
            return BAD;
        }
        for (int i = 0; i < seconds; i++) {
            passSecond();
        }
        return this.seconds;
    }

    public long told(int node, int what) {
        if (!isNode(node)) {
            return NOT_TOLD;
        }
        Node asked = nodes.get(node);
        switch (what) {
            case 0: return asked.litres;
            case 1: return asked.levelNow();
            case 2: return asked.overfull;
            case 3: return asked.gated;
            default: return NOT_TOLD;
        }
    }

    public long flow(int pipe, int what) {
        if (!isWithin(pipe, 0, pipes.size() - 1)) {
            return NO_FLOW;
        }
        Pipe asked = pipes.get(pipe);
        switch (what) {
            case 0: return asked.movedLast;
            case 1: return asked.movedInAll;
            case 2: return asked.rest;
            default: return NO_FLOW;
        }
    }

    public long cell(int cell) {
        return isCell(cell) ? cells[cell] : BAD;
    }

    public int pumps(int pump) {
        if (!isWithin(pump, 0, pumps.size() - 1)) {
            return BAD;
        }
        return pumps.get(pump).isOn ? 1 : 0;
    }

    public long litres(int part) {
        switch (part) {
            case 0: return rained;
            case 1: return litresInNodes();
            case 2: return litresInCells();
            case 3: return out;
            case 4: return outside;
            default: return BAD;
        }
    }

    public boolean keeps() {
        return rained == litresInNodes() + litresInCells() + out + outside;
    }

    public int list(int width, int price) {
        if (!isWithin(width, NARROWEST, WIDEST) || !isWithin(price, 0, 100_000)) {
            return BAD;
        }
        return line.addEntry(width, price);
    }

    public boolean begin(int ground, int bottom) {
        if (!isHeight(ground) || !isHeight(bottom)) {
            return false;
        }
        line.beginAnew(ground, bottom);
        return true;
    }

    public int piece(int ground, int length, int need) {
        if (!isHeight(ground) || !isWithin(length, 1, LONGEST) || !isWithin(need, 0, 10_000)) {
            return BAD;
        }
        return line.addPiece(ground, length, need);
    }

    public long lay(int cover, int dig) {
        if (!isWithin(cover, 0, 10_000) || !isWithin(dig, 0, 1_000)) {
            return BAD;
        }
        return line.layBest(cover, dig);
    }

    public int laid(int k, int what) {
        return line.tellLaid(k, what);
    }

    public int count(int what) {
        switch (what) {
            case 0: return nodes.size();
            case 1: return pipes.size();
            case 2: return areas.size();
            case 3: return pumps.size();
            case 4: return gates.size();
            case 5: return gullies.size();
            case 6: return line.entries.size();
            case 7: return line.pieceCount;
            case 8: return seconds;
            default: return BAD;
        }
    }

    private static boolean isWithin(int value, int least, int most) {
        return value >= least && value <= most;
    }

    private static boolean isHeight(int value) {
        return isWithin(value, -HIGHEST, HIGHEST);
    }

    private static boolean isCell(int cell) {
        return isWithin(cell, 0, CELLS - 1);
    }

    private boolean isNode(int node) {
        return isWithin(node, 0, nodes.size() - 1);
    }

    private boolean areTwoNodes(int one, int other) {
        return isNode(one) && isNode(other) && one != other;
    }

    private long litresInNodes() {
        long sum = 0;
        for (int i = 0; i < nodes.size(); i++) {
            sum += nodes.get(i).litres;
        }
        return sum;
    }

    private long litresInCells() {
        long sum = 0;
        for (int i = 0; i < CELLS; i++) {
            sum += cells[i];
        }
        return sum;
    }

    private void passSecond() {
        rainOnAreas();
        carryByPipes();
        for (int i = 0; i < pumps.size(); i++) {
            pumps.get(i).lift();
        }
        for (int i = 0; i < gates.size(); i++) {
            out += gates.get(i).letOut();
        }
        drainCells();
        spillNodes();
        seconds++;
    }

    private void rainOnAreas() {
        int rainNow = rains[seconds / 60];
        for (int i = 0; i < areas.size(); i++) {
            rained += areas.get(i).takeRain(rainNow);
        }
    }

    private void carryByPipes() {
        // All pipes go by the levels from before the first of them moved anything.
        for (int i = 0; i < nodes.size(); i++) {
            nodes.get(i).markLevel();
        }
        for (int i = 0; i < pipes.size(); i++) {
            pipes.get(i).carry();
        }
    }

    private void drainCells() {
        for (int i = 0; i < gullies.size(); i++) {
            Gully gully = gullies.get(i);
            cells[gully.cell] -= gully.drain(cells[gully.cell]);
        }
    }

    private void spillNodes() {
        for (int i = 0; i < nodes.size(); i++) {
            Node node = nodes.get(i);
            long spilt = node.spill();
            if (node.street == NO_STREET) {
                outside += spilt;
            } else {
                cells[node.street] += spilt;
            }
        }
    }

    private static final class Node {
        final int bottom;
        final int room;
        final long full;
        long litres;
        long markedLevel;
        long overfull;
        long gated;
        int street = NO_STREET;

        Node(int ground, int bottom, int room) {
            this.bottom = bottom;
            this.room = room;
            full = (long) room * (ground - bottom);
        }

        long levelNow() {
            return bottom + litres / room;
        }

        void markLevel() {
            markedLevel = levelNow();
        }

        /** Gives at most so many litres to another node; answers how many. */
        long giveTo(Node other, long wanted) {
            long given = Math.min(wanted, litres);
            litres -= given;
            other.litres += given;
            return given;
        }

        /** Takes off what is more than full; answers how much that was. */
        long spill() {
            long spilt = Math.max(0, litres - full);
            litres -= spilt;
            overfull += spilt;
            return spilt;
        }
    }

    private static final class Area {
        final Node node;
        final long catching;
        long rest;

        Area(Node node, int squares, int loss) {
            this.node = node;
            catching = (long) squares * (1_000 - loss);
        }

        long takeRain(int rainNow) {
            rest += catching * rainNow;
            long come = rest / RAIN_OF_A_LITRE;
            rest %= RAIN_OF_A_LITRE;
            node.litres += come;
            return come;
        }
    }

    private static final class Pipe {
        final Node from;
        final Node to;
        final long square;
        final long resistance;
        long rest;
        long movedLast;
        long movedInAll;

        Pipe(Node from, Node to, int length, int width) {
            this.from = from;
            this.to = to;
            square = (long) width * width;
            resistance = 1_000L * length;
        }

        void carry() {
            rest += square * (from.markedLevel - to.markedLevel);
            long wanted = rest / resistance;
            // The rest is of what was wanted: what the giving node lacked is not carried on.
            rest %= resistance;
            movedLast = wanted >= 0 ? from.giveTo(to, wanted) : -to.giveTo(from, -wanted);
            movedInAll += movedLast;
        }
    }

    private static final class Pump {
        final Node node;
        final Node to;
        final int on;
        final int off;
        final int rate;
        boolean isOn;

        Pump(Node node, Node to, int on, int off, int rate) {
            this.node = node;
            this.to = to;
            this.on = on;
            this.off = off;
            this.rate = rate;
        }

        void lift() {
            long level = node.levelNow();
            if (level >= on) {
                isOn = true;
            } else if (level <= off) {
                isOn = false;
            }
            if (isOn) {
                node.giveTo(to, rate);
            }
        }
    }

    private static final class Gate {
        final Node node;
        final long sill;
        final int rate;

        Gate(Node node, int height, int rate) {
            this.node = node;
            sill = (long) height * node.room;
            this.rate = rate;
        }

        long letOut() {
            long gone = Math.max(0, Math.min(rate, node.litres - sill));
            node.litres -= gone;
            node.gated += gone;
            return gone;
        }
    }

    private static final class Gully {
        final int cell;
        final Node node;
        final int rate;

        Gully(int cell, Node node, int rate) {
            this.cell = cell;
            this.node = node;
            this.rate = rate;
        }

        /** Takes litres of a cell that holds so many; answers how many it took. */
        long drain(long held) {
            long space = Math.max(0, node.full - node.litres);
            long taken = Math.min(Math.min(rate, held), space);
            node.litres += taken;
            return taken;
        }
    }

    private static final class Entry {
        final int width;
        final int price;

        Entry(int width, int price) {
            this.width = width;
            this.price = price;
        }
    }

    private static final class Piece {
        /**
         * By the drop at which the piece begins and the narrowest entry that it may have: the
         * least that it and all pieces behind it cost.
         */
        final long[] least;
        int ground;
        int length;
        int need;
        int laidEntry;
        int laidFall;
        int laidBottom;

        Piece(int number) {
            least = new long[(number * MOST_FALL + 1) * MOST_ENTRIES];
        }
    }

    /**
     * The line and the list. A DROP is how far a bottom is below the line's first one. The pieces
     * are weighed from the last to the first, then the best line is followed from the first on.
     */
    private static final class Line {
        final ArrayList<Entry> entries = new ArrayList<>();
        /** Pieces stay here when the line begins anew, so that their rows are used again. */
        final ArrayList<Piece> pieces = new ArrayList<>();
        final long[] costAtEnd = new long[MOST_PIECES * MOST_FALL + 1];
        int pieceCount;
        boolean hasBegun;
        boolean isLaid;
        int ground;
        int bottom;
        int cover;
        int dig;

        int addEntry(int width, int price) {
            int number = entries.size();
            if (number >= MOST_ENTRIES || (number > 0 && width <= entries.get(number - 1).width)) {
                return BAD;
            }
            entries.add(new Entry(width, price));
            isLaid = false;
            return number;
        }

        void beginAnew(int ground, int bottom) {
            this.ground = ground;
            this.bottom = bottom;
            pieceCount = 0;
            hasBegun = true;
            isLaid = false;
        }

        int addPiece(int ground, int length, int need) {
            if (!hasBegun || pieceCount >= MOST_PIECES) {
                return BAD;
            }
            if (pieceCount >= pieces.size()) {
                pieces.add(new Piece(pieceCount));
            }
            Piece piece = pieces.get(pieceCount);
            piece.ground = ground;
            piece.length = length;
            piece.need = need;
            isLaid = false;
            return pieceCount++;
        }

        long layBest(int cover, int dig) {
            if (pieceCount == 0) {
                return BAD;
            }
            this.cover = cover;
            this.dig = dig;
            isLaid = false;
            if (entries.isEmpty()) {
                return NO_LINE;
            }
            for (int k = pieceCount - 1; k >= 0; k--) {
                weighPiece(k);
            }
            long cost = pieces.get(0).least[0];
            if (cost >= UNLAYABLE) {
                return NO_LINE;
            }
            followBest();
            isLaid = true;
            return cost;
        }

        int tellLaid(int k, int what) {
            if (!isLaid || !isWithin(k, 0, pieceCount - 1)) {
                return NOT_LAID;
            }
            Piece piece = pieces.get(k);
            switch (what) {
                case 0: return piece.laidEntry;
                case 1: return piece.laidFall;
                case 2: return piece.laidBottom;
                default: return NOT_LAID;
            }
        }

        private void weighPiece(int k) {
            long[] least = pieces.get(k).least;
            // From the widest entry on, as each narrower one may also take what a wider one costs.
            for (int entry = entries.size() - 1; entry >= 0; entry--) {
                boolean isWidest = entry == entries.size() - 1;
                int leastFall = leastFall(k, entry);
                weighEnds(k, entry);
                int end = Integer.MAX_VALUE;
                for (int drop = k * MOST_FALL; drop >= 0; drop--) {
                    int place = drop * MOST_ENTRIES + entry;
                    long cost = isWidest ? UNLAYABLE : least[place + 1];
                    if (leastFall <= MOST_FALL) {
                        end = cheapestEnd(drop + leastFall, drop + MOST_FALL, end);
                        if (isCoveredAtBegin(k, entry, drop)) {
                            cost = Math.min(cost, costAtEnd[end]);
                        }
                    }
                    least[place] = cost;
                }
            }
        }

        private void weighEnds(int k, int entry) {
            int deepest = (k + 1) * MOST_FALL;
            for (int end = 0; end <= deepest; end++) {
                costAtEnd[end] = costFrom(k, entry, end);
            }
        }

        /**
         * Which drop of those from first to last costs least, where held is which it was of those
         * from first + 1 to last + 1: only if that one is out of reach must all be looked at.
         */
        private int cheapestEnd(int first, int last, int held) {
            if (held <= last) {
                return costAtEnd[first] <= costAtEnd[held] ? first : held;
            }
            int cheapest = first;
            for (int end = first + 1; end <= last; end++) {
                if (costAtEnd[end] < costAtEnd[cheapest]) {
                    cheapest = end;
                }
            }
            return cheapest;
        }

        /** The least that piece k and all behind it cost, if it has this entry and ends at this drop. */
        private long costFrom(int k, int entry, int end) {
            Piece piece = pieces.get(k);
            Entry chosen = entries.get(entry);
            long depth = (long) piece.ground - bottom + end;
            if (depth < cover + chosen.width) {
                return UNLAYABLE;
            }
            long own = piece.length * (chosen.price + dig * depth);
            if (k + 1 >= pieceCount) {
                return own;
            }
            return own + pieces.get(k + 1).least[end * MOST_ENTRIES + entry];
        }

        private boolean isCoveredAtBegin(int k, int entry, int drop) {
            int above = k == 0 ? ground : pieces.get(k - 1).ground;
            return above - bottom + drop >= cover + entries.get(entry).width;
        }

        /** The least fall that carries what piece k needs; more than there is, if none does. */
        private int leastFall(int k, int entry) {
            Piece piece = pieces.get(k);
            long width = entries.get(entry).width;
            long square = width * width;
            long carried = 1_000L * piece.length * piece.need;
            long fall = (carried + square - 1) / square;
            return (int) Math.max(1, Math.min(MOST_FALL + 1, fall));
        }

        private void followBest() {
            int drop = 0;
            int narrowest = 0;
            for (int k = 0; k < pieceCount; k++) {
                layPiece(k, drop, narrowest);
                drop += pieces.get(k).laidFall;
                narrowest = pieces.get(k).laidEntry;
            }
        }

        /** Lays piece k with the first entry and fall, in the order of like lines, that cost least. */
        private void layPiece(int k, int drop, int narrowest) {
            Piece piece = pieces.get(k);
            long due = piece.least[drop * MOST_ENTRIES + narrowest];
            for (int entry = narrowest; entry < entries.size(); entry++) {
                int fall = fallThatCosts(due, k, entry, drop);
                if (fall > 0) {
                    piece.laidEntry = entry;
                    piece.laidFall = fall;
                    piece.laidBottom = bottom - drop - fall;
                    return;
                }
            }
        }

        /** The least fall with which piece k and all behind it cost just this; 0 if none does. */
        private int fallThatCosts(long due, int k, int entry, int drop) {
            if (!isCoveredAtBegin(k, entry, drop)) {
                return 0;
            }
            for (int fall = leastFall(k, entry); fall <= MOST_FALL; fall++) {
                if (costFrom(k, entry, drop + fall) == due) {
                    return fall;
                }
            }
            return 0;
        }
    }
}
