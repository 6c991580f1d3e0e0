/** A picture cut into pieces by sides of whole numbers, and a heap of its pieces that is put together by sides alone. */
public final class CutOnce {
    public static final int UNKNOWN = -1, OUTSIDE = -2, STATE = -3, FULL = -4, SPENT = -6, NONE = -9;
    public static final long LOST = Long.MIN_VALUE;

    private static final int LONGEST = 5;
    private static final int MOST_PIECES = 25;
    private static final int MOST_SIDES = 40;
    private static final int MOST_TRIALS = 60000;

    private static final int EDGES = 4;
    private static final int ABOVE = 0, RIGHT = 1, BELOW = 2, LEFT = 3;

    private static final int HEIGHTS = 5;
    private static final int HIGHEST = 9;
    private static final int AS_IS = 0, TURNED_ABOUT = 1;

    private static final int SIDE = 0, BULGE = 1, TRAP = 2;
    private static final int SIDE_BODY = 1, BULGE_BODY = 2, TRAP_BODY = 3, LENT_BODY = 4, TRAP_MARK_BODY = 5;
    private static final int BULGE_MORE = 100;
    private static final int TRAP_MARK = 99;

    private static final int LANES = 3;
    private static final int BYTES = 0, SHORTS = 1;
    private static final int SHEETS = 4;
    private static final int MOST_CELLS = 50;

    private static final int NULL = 1, CAST = 2, INDEX = 3, SIZE = 4;

    private final Picture thePicture;
    private final Pile thePile;
    private final Search theSearch;
    private final Draw theDraw;
    private final Sheet[] sheets;
    private int traceLeft;
    private int latestFault;

    public CutOnce() {
        thePicture = new Picture();
        thePile = new Pile();
        theSearch = new Search(thePicture, thePile);
        theDraw = new Draw();
        sheets = new Sheet[SHEETS];
        for (int k = 0; k < sheets.length; k++) {
            sheets[k] = new Sheet();
        }
    }

    // ---- 1 pictures

    public int picture(int w, int h) {
        if (w < 1 || w > LONGEST || h < 1 || h > LONGEST) {
            return OUTSIDE;
        }
        thePicture.cutAnew(w, h);
        thePile.clearAll();
        theSearch.forgetJoined();
        return thePicture.sides();
    }

    public int make(long seed) {
        theDraw.begin(seed);
        for (int side = 0; side < thePicture.sides(); side++) {
            for (int i = 0; i < HEIGHTS; i++) {
                thePicture.setHeight(side, i, theDraw.below(2 * HIGHEST + 1) - HIGHEST);
            }
        }
        theSearch.forgetJoined();
        return 1;
    }

    public long bend(int side, int i, int v) {
        if (!thePicture.hasSide(side) || !isHeightPlace(i) || !isHeight(v)) {
            return LOST;
        }
        int before = thePicture.heightAt(side, i, AS_IS);
        thePicture.setHeight(side, i, v);
        theSearch.forgetJoined();
        return before;
    }

    public long height(int side, int i) {
        if (!thePicture.hasSide(side) || !isHeightPlace(i)) {
            return LOST;
        }
        return thePicture.heightAt(side, i, AS_IS);
    }

    public int shape(int k, int lane, int i, int n, int s) {
        latestFault = 0;
        if (!isSheet(k) || !thePicture.hasSide(s)) {
            return UNKNOWN;
        }
        if (!isLane(lane)) {
            return OUTSIDE;
        }
        Sheet from = sheets[k];
        if (from.isOfOther(lane)) {
            return come(CAST);
        }
        if (!from.isThere()) {
            return come(NULL);
        }
        if (n < 0) {
            return come(SIZE);
        }
        if (!from.holds(i, (long) n * HEIGHTS) || (long) s + n > thePicture.sides()) {
            return come(INDEX);
        }
        if (!areHeights(from, i, n * HEIGHTS)) {
            return OUTSIDE;
        }
        shapeFrom(from, i, n, s);
        theSearch.forgetJoined();
        return n;
    }

    public int sideOf(int p, int e) {
        if (!thePicture.hasEdge(p, e)) {
            return UNKNOWN;
        }
        return thePicture.sideAt(p, e);
    }

    public long edge(int p, int e, int i) {
        if (!thePicture.hasEdge(p, e) || !isHeightPlace(i) || thePicture.isFlat(p, e)) {
            return LOST;
        }
        return thePicture.edgeHeight(p, e, i);
    }

    public int far(int p, int e, int q, int f) {
        if (!thePicture.hasEdge(p, e) || !thePicture.hasEdge(q, f)) {
            return UNKNOWN;
        }
        if (thePicture.isFlat(p, e) || thePicture.isFlat(q, f)) {
            return STATE;
        }
        return thePicture.farness(p, e, q, f);
    }

    // ---- 2 kinds

    public int kind(int side) {
        if (!thePicture.hasSide(side)) {
            return UNKNOWN;
        }
        return thePicture.kindAt(side);
    }

    public int unlike() {
        int least = thePicture.leastFar();
        return least == NONE ? STATE : least;
    }

    public int traps(int d) {
        if (d < 0) {
            return OUTSIDE;
        }
        return thePicture.pairsWithin(d);
    }

    public int alike(int a, int b, int way) {
        if (!thePicture.hasSide(a) || !thePicture.hasSide(b)) {
            return UNKNOWN;
        }
        if (way != AS_IS && way != TURNED_ABOUT) {
            return OUTSIDE;
        }
        if (a == b) {
            return STATE;
        }
        theSearch.forgetJoined();
        return thePicture.giveShape(a, b, way);
    }

    // ---- 3 the heap

    public int lay(int p, int turn) {
        if (!thePicture.hasPiece(p)) {
            return UNKNOWN;
        }
        if (turn < 0 || turn >= EDGES) {
            return OUTSIDE;
        }
        if (thePile.isFull()) {
            return FULL;
        }
        thePile.append(p, turn);
        theSearch.forgetJoined();
        return thePile.size();
    }

    public int heap(long seed) {
        thePile.clearAll();
        for (int p = 0; p < thePicture.pieces(); p++) {
            thePile.append(p, 0);
        }
        theDraw.begin(seed);
        for (int i = thePile.size() - 1; i >= 1; i--) {
            thePile.swapPieces(i, theDraw.below(i + 1));
        }
        for (int i = 0; i < thePile.size(); i++) {
            thePile.setTurn(i, theDraw.below(EDGES));
        }
        theSearch.forgetJoined();
        return thePile.size();
    }

    public int take(int i) {
        if (!thePile.hasPlace(i)) {
            return UNKNOWN;
        }
        int gone = thePile.pieceAt(i);
        thePile.removeAt(i);
        theSearch.forgetJoined();
        return gone;
    }

    public int heaped(int i, int what) {
        if (!thePile.hasPlace(i)) {
            return UNKNOWN;
        }
        switch (what) {
            case 0: return thePile.pieceAt(i);
            case 1: return thePile.turnAt(i);
            default: return OUTSIDE;
        }
    }

    public int missing(int what) {
        if (!isMissingWhat(what)) {
            return OUTSIDE;
        }
        return countMissing(what);
    }

    public int missed(int what, int i) {
        if (i < 0) {
            // a place of no row at all, whatever row is asked for
            return UNKNOWN;
        }
        if (!isMissingWhat(what)) {
            // asks for no row in which a place could be missing
            return OUTSIDE;
        }
        return missingPiece(what, i);
    }

    public int ways() {
        return theSearch.countWays();
    }

    public int join() {
        return theSearch.findFirst();
    }

    public int joined(int place, int what) {
        if (!theSearch.hasJoined()) {
            return STATE;
        }
        if (!thePicture.hasPiece(place)) {
            return UNKNOWN;
        }
        switch (what) {
            case 0: return theSearch.joinedFrom(place);
            case 1: return theSearch.joinedTurn(place);
            default: return OUTSIDE;
        }
    }

    public int trials() {
        return theSearch.trialsCounted();
    }

    public int known(int p) {
        if (!thePicture.hasPiece(p)) {
            return UNKNOWN;
        }
        if (thePile.timesOf(p) > 0) {
            return STATE;
        }
        int heights = 0;
        for (int e = 0; e < EDGES; e++) {
            if (!thePicture.isFlat(p, e) && thePile.timesOf(thePicture.nextTo(p, e)) > 0) {
                heights += HEIGHTS;
            }
        }
        return heights;
    }

    // ---- 4 sheets, parts

    public int sheet(int k, int lane, int n) {
        latestFault = 0;
        if (!isSheet(k)) {
            return UNKNOWN;
        }
        if (!isLane(lane) || n > MOST_CELLS) {
            return OUTSIDE;
        }
        if (n < 0) {
            return come(SIZE);
        }
        sheets[k].renew(lane, n);
        return 1;
    }

    public int lose(int k) {
        if (!isSheet(k)) {
            return UNKNOWN;
        }
        int had = sheets[k].isThere() ? 1 : 0;
        sheets[k].drop();
        return had;
    }

    public int put(int k, int i, int v) {
        latestFault = 0;
        if (!isSheet(k)) {
            return UNKNOWN;
        }
        if (!sheets[k].isThere()) {
            return come(NULL);
        }
        if (!sheets[k].holds(i, 1)) {
            return come(INDEX);
        }
        sheets[k].write(i, v);
        return 1;
    }

    public long cell(int k, int i, int lane) {
        latestFault = 0;
        if (!isSheet(k) || !isLane(lane)) {
            return LOST;
        }
        if (sheets[k].isOfOther(lane)) {
            return comeLost(CAST);
        }
        if (!sheets[k].isThere()) {
            return comeLost(NULL);
        }
        if (!sheets[k].holds(i, 1)) {
            return comeLost(INDEX);
        }
        return sheets[k].read(i);
    }

    public int copy(int k, int i, int other, int j, int n) {
        latestFault = 0;
        if (!isSheet(k) || !isSheet(other)) {
            return UNKNOWN;
        }
        Sheet from = sheets[k];
        Sheet to = sheets[other];
        if (!from.isThere() || !to.isThere()) {
            return come(NULL);
        }
        if (from.isOfOther(to.laneHeld())) {
            return come(CAST);
        }
        if (!from.holds(i, n) || !to.holds(j, n)) {
            return come(INDEX);
        }
        to.writeFrom(from, i, j, n);
        return n;
    }

    public int tell(int side) {
        if (!thePicture.hasSide(side)) {
            return UNKNOWN;
        }
        switch (thePicture.kindAt(side)) {
            case TRAP:
                leave(TRAP_BODY);
                return -sumBody(side);
            case BULGE:
                leave(BULGE_BODY);
                return sumBody(side) + BULGE_MORE;
            default:
                return sumBody(side);
        }
    }

    public int mark(int side) {
        if (!thePicture.hasSide(side)) {
            return UNKNOWN;
        }
        if (thePicture.kindAt(side) == TRAP) {
            leave(TRAP_MARK_BODY);
            return TRAP_MARK;
        }
        leave(LENT_BODY);
        return side;
    }

    public int as(int side, int kind) {
        latestFault = 0;
        if (!thePicture.hasSide(side)) {
            return UNKNOWN;
        }
        if (kind < SIDE || kind > TRAP) {
            return OUTSIDE;
        }
        if (thePicture.kindAt(side) < kind) {
            return come(CAST);
        }
        return 1;
    }

    public int trace() {
        return traceLeft;
    }

    public int fault() {
        return latestFault;
    }

    public int told(int what) {
        switch (what) {
            case 0: return thePicture.width();
            case 1: return thePicture.depth();
            case 2: return thePicture.pieces();
            case 3: return thePicture.sides();
            case 4: return thePile.size();
            default: return OUTSIDE;
        }
    }

    // ---- what the calls share

    private static boolean isHeightPlace(int i) {
        return i >= 0 && i < HEIGHTS;
    }

    private static boolean isHeight(int v) {
        return v >= -HIGHEST && v <= HIGHEST;
    }

    private static boolean isSheet(int k) {
        return k >= 0 && k < SHEETS;
    }

    private static boolean isLane(int lane) {
        return lane >= 0 && lane < LANES;
    }

    private static boolean isMissingWhat(int what) {
        return what == 0 || what == 1;
    }

    private static boolean areHeights(Sheet from, int i, int n) {
        for (int c = i; c < i + n; c++) {
            if (!isHeight(from.read(c))) {
                return false;
            }
        }
        return true;
    }

    private void shapeFrom(Sheet from, int i, int n, int s) {
        for (int c = 0; c < n; c++) {
            for (int at = 0; at < HEIGHTS; at++) {
                thePicture.setHeight(s + c, at, from.read(i + c * HEIGHTS + at));
            }
        }
    }

    private boolean isMissing(int what, int p) {
        int times = thePile.timesOf(p);
        return what == 0 ? times == 0 : times > 1;
    }

    private int countMissing(int what) {
        int count = 0;
        for (int p = 0; p < thePicture.pieces(); p++) {
            if (isMissing(what, p)) {
                count++;
            }
        }
        return count;
    }

    private int missingPiece(int what, int i) {
        int before = 0;
        for (int p = 0; p < thePicture.pieces(); p++) {
            if (isMissing(what, p)) {
                if (before == i) {
                    return p;
                }
                before++;
            }
        }
        return UNKNOWN;
    }

    private int sumBody(int side) {
        leave(SIDE_BODY);
        return thePicture.sumOf(side);
    }

    private void leave(int body) {
        traceLeft = 31 * traceLeft + body;
    }

    private int come(int fault) {
        latestFault = fault;
        return -10 - fault;
    }

    private long comeLost(int fault) {
        latestFault = fault;
        return LOST;
    }

    /** THE DRAW: numbers from a seed. */
    private static final class Draw {
        private long now;

        void begin(long seed) {
            now = seed;
        }

        int below(int n) {
            now = now * 6364136223846793005L + 1442695040888963407L;
            return n < 1 ? 0 : (int) ((now & 0x7FFFFFFFL) / 4096 % n);
        }
    }

    /** THE PICTURE: its measures, the heights of its sides, and which side each edge of a piece is of. */
    private static final class Picture {
        private final int[] heights = new int[MOST_SIDES * HEIGHTS];
        private final int[] sideOfEdge = new int[MOST_PIECES * EDGES];
        private int w;
        private int h;

        Picture() {
            cutAnew(1, 1);
        }

        void cutAnew(int wide, int high) {
            w = wide;
            h = high;
            for (int i = 0; i < heights.length; i++) {
                heights[i] = 0;
            }
            for (int y = 0; y < h; y++) {
                for (int x = 0; x < w; x++) {
                    layEdges(x, y);
                }
            }
        }

        private void layEdges(int x, int y) {
            int p = w * y + x;
            int across = (w - 1) * y + x;
            int down = (w - 1) * h + w * y + x;
            setSide(p, ABOVE, y == 0 ? NONE : down - w);
            setSide(p, RIGHT, x == w - 1 ? NONE : across);
            setSide(p, BELOW, y == h - 1 ? NONE : down);
            setSide(p, LEFT, x == 0 ? NONE : across - 1);
        }

        private void setSide(int p, int e, int side) {
            int at = p * EDGES + e;
            if (at >= 0 && at < sideOfEdge.length) {
                sideOfEdge[at] = side;
            }
        }

        int width() {
            return w;
        }

        int depth() {
            return h;
        }

        int pieces() {
            return w * h;
        }

        int sides() {
            return (w - 1) * h + w * (h - 1);
        }

        boolean hasSide(int side) {
            return side >= 0 && side < sides();
        }

        boolean hasPiece(int p) {
            return p >= 0 && p < pieces();
        }

        boolean hasEdge(int p, int e) {
            return hasPiece(p) && e >= 0 && e < EDGES;
        }

        int sideAt(int p, int e) {
            int at = p * EDGES + e;
            return at >= 0 && at < sideOfEdge.length ? sideOfEdge[at] : NONE;
        }

        boolean isFlat(int p, int e) {
            return sideAt(p, e) == NONE;
        }

        /** The piece beyond an edge that is not flat. */
        int nextTo(int p, int e) {
            switch (e) {
                case ABOVE: return p - w;
                case RIGHT: return p + 1;
                case BELOW: return p + w;
                default: return p - 1;
            }
        }

        void setHeight(int side, int i, int v) {
            int at = side * HEIGHTS + i;
            if (at >= 0 && at < heights.length) {
                heights[at] = v;
            }
        }

        /** Height i of a side as it is, or of it turned about: the other way round, each its contrary. */
        int heightAt(int side, int i, int way) {
            int at = side * HEIGHTS + (way == AS_IS ? i : HEIGHTS - 1 - i);
            if (at < 0 || at >= heights.length) {
                return 0;
            }
            return way == AS_IS ? heights[at] : -heights[at];
        }

        int edgeHeight(int p, int e, int i) {
            // a piece is the one of less number of its sides to the right and below
            int way = e == RIGHT || e == BELOW ? AS_IS : TURNED_ABOUT;
            return heightAt(sideAt(p, e), i, way);
        }

        int farness(int p, int e, int q, int f) {
            int sum = 0;
            for (int i = 0; i < HEIGHTS; i++) {
                sum += Math.abs(edgeHeight(p, e, i) + edgeHeight(q, f, HEIGHTS - 1 - i));
            }
            return sum;
        }

        int sumOf(int side) {
            int sum = 0;
            for (int i = 0; i < HEIGHTS; i++) {
                sum += heightAt(side, i, AS_IS);
            }
            return sum;
        }

        int kindAt(int side) {
            if (!bulges(side)) {
                return SIDE;
            }
            for (int other = 0; other < sides(); other++) {
                if (other != side && (differing(side, other, AS_IS) == 0 || differing(side, other, TURNED_ABOUT) == 0)) {
                    return TRAP;
                }
            }
            return BULGE;
        }

        private boolean bulges(int side) {
            int out = 0;
            int in = 0;
            for (int i = 0; i < HEIGHTS; i++) {
                int height = heightAt(side, i, AS_IS);
                out += height > 0 ? 1 : 0;
                in += height < 0 ? 1 : 0;
            }
            return out == HEIGHTS || in == HEIGHTS;
        }

        /** How many heights of a side are not those of another one, taken as it is or turned about. */
        private int differing(int side, int other, int way) {
            int count = 0;
            for (int i = 0; i < HEIGHTS; i++) {
                if (heightAt(side, i, AS_IS) != heightAt(other, i, way)) {
                    count++;
                }
            }
            return count;
        }

        /** Answers how many heights became other ones. */
        int giveShape(int side, int other, int way) {
            int changed = differing(side, other, way);
            for (int i = 0; i < HEIGHTS; i++) {
                setHeight(side, i, heightAt(other, i, way));
            }
            return changed;
        }

        /** The least farness of two edges that are no mates, of unlike pieces; NONE: there are no such edges. */
        int leastFar() {
            int least = NONE;
            for (int a = 0; a < pieces() * EDGES; a++) {
                for (int b = a + 1; b < pieces() * EDGES; b++) {
                    int apart = strangersApart(a, b);
                    if (apart != NONE && (least == NONE || apart < least)) {
                        least = apart;
                    }
                }
            }
            return least;
        }

        int pairsWithin(int d) {
            int pairs = 0;
            for (int a = 0; a < pieces() * EDGES; a++) {
                for (int b = a + 1; b < pieces() * EDGES; b++) {
                    int apart = strangersApart(a, b);
                    if (apart != NONE && apart <= d) {
                        pairs++;
                    }
                }
            }
            return pairs;
        }

        /** How far two edges are from one another; NONE: flat ones, mates, or edges of one piece. */
        private int strangersApart(int a, int b) {
            int p = a / EDGES;
            int e = a % EDGES;
            int q = b / EDGES;
            int f = b % EDGES;
            if (p == q || isFlat(p, e) || isFlat(q, f) || sideAt(p, e) == sideAt(q, f)) {
                return NONE;
            }
            return farness(p, e, q, f);
        }
    }

    /** THE HEAP: a row of pieces, each with its turn. */
    private static final class Pile {
        private final int[] pieceOf = new int[MOST_PIECES];
        private final int[] turnOf = new int[MOST_PIECES];
        private int count;

        int size() {
            return count;
        }

        boolean isFull() {
            return count >= MOST_PIECES;
        }

        boolean hasPlace(int i) {
            return i >= 0 && i < count;
        }

        int pieceAt(int i) {
            return hasPlace(i) ? pieceOf[i] : NONE;
        }

        int turnAt(int i) {
            return hasPlace(i) ? turnOf[i] : 0;
        }

        void clearAll() {
            count = 0;
        }

        void append(int p, int turn) {
            if (!isFull()) {
                pieceOf[count] = p;
                turnOf[count] = turn;
                count++;
            }
        }

        void setTurn(int i, int turn) {
            if (hasPlace(i)) {
                turnOf[i] = turn;
            }
        }

        void swapPieces(int i, int j) {
            if (hasPlace(i) && hasPlace(j)) {
                int p = pieceOf[i];
                pieceOf[i] = pieceOf[j];
                pieceOf[j] = p;
            }
        }

        void removeAt(int i) {
            if (hasPlace(i)) {
                for (int at = i + 1; at < count; at++) {
                    pieceOf[at - 1] = pieceOf[at];
                    turnOf[at - 1] = turnOf[at];
                }
                count--;
            }
        }

        int timesOf(int p) {
            int times = 0;
            for (int i = 0; i < count; i++) {
                if (pieceOf[i] == p) {
                    times++;
                }
            }
            return times;
        }
    }

    /** A SEARCH for ways to put the heap together, and the way that the latest join found. */
    private static final class Search {
        private static final int FLAT = -1, ANY = -2;

        private final Picture goal;
        private final Pile pile;
        // how one lies is told by one number: its place in the heap times 4, and the turn further
        private final int[] shown = new int[MOST_PIECES * EDGES * EDGES];
        private final int[] fitting = new int[MOST_PIECES * EDGES * EDGES];
        private final int[] wanted = new int[MOST_PIECES * EDGES];
        private final boolean[] used = new boolean[MOST_PIECES];
        private final int[] lying = new int[MOST_PIECES];
        private final int[] joinedLying = new int[MOST_PIECES];
        private boolean joinedOnce;
        private boolean firstOnly;
        private boolean spent;
        private int found;
        private int trialCount;

        Search(Picture picture, Pile heap) {
            goal = picture;
            pile = heap;
        }

        int trialsCounted() {
            return trialCount;
        }

        boolean hasJoined() {
            return joinedOnce;
        }

        void forgetJoined() {
            joinedOnce = false;
        }

        int joinedFrom(int place) {
            return look(joinedLying, place) / EDGES;
        }

        int joinedTurn(int place) {
            return look(joinedLying, place) % EDGES;
        }

        int countWays() {
            run(false);
            return spent ? SPENT : found;
        }

        int findFirst() {
            run(true);
            if (spent) {
                return SPENT;
            }
            joinedOnce = found > 0;
            for (int place = 0; joinedOnce && place < goal.pieces(); place++) {
                note(joinedLying, place, look(lying, place));
            }
            return found;
        }

        private void run(boolean onlyTheFirst) {
            for (int i = 0; i < used.length; i++) {
                used[i] = false;
            }
            for (int i = 0; i < pile.size(); i++) {
                readEdges(i);
            }
            firstOnly = onlyTheFirst;
            spent = false;
            found = 0;
            trialCount = 0;
            fillFrom(0);
        }

        /** Sets down once what one of the heap shows in each direction with each turn: a search asks it often. */
        private void readEdges(int i) {
            int p = pile.pieceAt(i);
            for (int e = 0; e < EDGES; e++) {
                int code = goal.isFlat(p, e) ? FLAT : codeOf(p, e);
                int mate = goal.isFlat(p, e) ? FLAT : mateOf(p, e);
                for (int turn = 0; turn < EDGES; turn++) {
                    int direction = (e + pile.turnAt(i) + turn) % EDGES;
                    int at = (i * EDGES + turn) * EDGES + direction;
                    note(shown, at, code);
                    note(fitting, at, mate);
                }
            }
        }

        /** The heights of an edge as one number. */
        private int codeOf(int p, int e) {
            int code = 0;
            for (int i = 0; i < HEIGHTS; i++) {
                code = code * (2 * HIGHEST + 1) + HIGHEST + goal.edgeHeight(p, e, i);
            }
            return code;
        }

        /** The heights that fit an edge as one number. */
        private int mateOf(int p, int e) {
            int code = 0;
            for (int i = HEIGHTS - 1; i >= 0; i--) {
                code = code * (2 * HIGHEST + 1) + HIGHEST - goal.edgeHeight(p, e, i);
            }
            return code;
        }

        /** Fills the places from one on in all ways: one level for each place, 25 at most. */
        private void fillFrom(int place) {
            if (place >= goal.pieces()) {
                found++;
                return;
            }
            lookAround(place);
            int heaped = Math.min(pile.size(), used.length);
            for (int i = 0; i < heaped; i++) {
                if (used[i]) {
                    continue;
                }
                for (int turn = 0; turn < EDGES; turn++) {
                    if (trialCount >= MOST_TRIALS) {
                        spent = true;
                        return;
                    }
                    trialCount++;
                    if (fits(place, i * EDGES + turn)) {
                        note(lying, place, i * EDGES + turn);
                        used[i] = true;
                        fillFrom(place + 1);
                        used[i] = false;
                    }
                    if (spent || firstOnly && found > 0) {
                        return;
                    }
                }
            }
        }

        /** Sets down what one must show at a place to fit the border and those that lie there already. */
        private void lookAround(int place) {
            int asked = place * EDGES;
            if (asked < 0 || asked > wanted.length - EDGES) {
                return;
            }
            for (int direction = 0; direction < EDGES; direction++) {
                int next = goal.nextTo(place, direction);
                int want = ANY;
                if (goal.isFlat(place, direction)) {
                    // the frame's places are the picture's: its border is where the picture's is
                    want = FLAT;
                } else if (next < place) {
                    want = look(fitting, look(lying, next) * EDGES + (direction + 2) % EDGES);
                }
                wanted[asked + direction] = want;
            }
        }

        private boolean fits(int place, int lies) {
            int asked = place * EDGES;
            int answered = lies * EDGES;
            if (asked < 0 || asked > wanted.length - EDGES || answered < 0 || answered > shown.length - EDGES) {
                return false;
            }
            for (int direction = 0; direction < EDGES; direction++) {
                int want = wanted[asked + direction];
                int shows = shown[answered + direction];
                if (want == ANY ? shows == FLAT : shows != want) {
                    return false;
                }
            }
            return true;
        }

        private static int look(int[] row, int at) {
            return at >= 0 && at < row.length ? row[at] : 0;
        }

        private static void note(int[] row, int at, int v) {
            if (at >= 0 && at < row.length) {
                row[at] = v;
            }
        }
    }

    /** A SHEET: nothing, or a row of numbers of a lane. */
    private static final class Sheet {
        private final int[] cells = new int[MOST_CELLS];
        private boolean there;
        private int lane;
        private int length;

        boolean isThere() {
            return there;
        }

        int laneHeld() {
            return lane;
        }

        /** Nothing is of every lane. */
        boolean isOfOther(int wanted) {
            return there && lane != wanted;
        }

        void renew(int ofLane, int n) {
            there = true;
            lane = ofLane;
            length = Math.min(Math.max(0, n), cells.length);
            for (int i = 0; i < cells.length; i++) {
                cells[i] = 0;
            }
        }

        void drop() {
            there = false;
            length = 0;
        }

        boolean holds(int i, long n) {
            return i >= 0 && n >= 0 && i + n <= length;
        }

        int read(int i) {
            return holds(i, 1) ? cells[i] : 0;
        }

        void write(int i, int v) {
            if (holds(i, 1)) {
                cells[i] = cutToLane(v);
            }
        }

        private int cutToLane(int v) {
            switch (lane) {
                case BYTES: return (byte) v;
                case SHORTS: return (short) v;
                default: return v;
            }
        }

        void writeFrom(Sheet other, int i, int j, int n) {
            if (other.holds(i, n) && holds(j, n)) {
                System.arraycopy(other.cells, i, cells, j, n);
            }
        }
    }
}
