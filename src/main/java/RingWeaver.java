import java.util.Arrays;

/**
 * Two drawings of areas in the plane, told by the pieces that bound them, and what they have
 * inside together, as polygons that are told in one way alone.
 */
public final class RingWeaver {
    public static final int NONE = -1;

    private static final int MOST = 2048;
    private static final int FARTHEST = 500000000;
    private static final int FIRST_ROOM = 16;
    /** The longest row has the places, at most two of each piece. */
    private static final int MOST_ROOM = 2 * MOST;

    private static final int FIRST_MARK = 1;
    private static final int SECOND_MARK = 2;
    private static final int BOTH_MARKS = 3;

    private static final int BOTH = 0;
    private static final int EITHER = 1;
    private static final int FIRST = 2;
    private static final int ONE = 3;
    private static final int SECOND = 4;

    private static final int MULTIPOLYGON = 6;
    private static final int POLYGON = 3;

    private final Net net;
    private final Boundary boundary;
    private final Rings rings;
    private final Multipolygon result;

    public RingWeaver() {
        net = new Net();
        boundary = new Boundary();
        rings = new Rings();
        result = new Multipolygon();
    }

    public int piece(int x, int y, int toX, int toY, int marks)
            throws IllegalArgumentException, IllegalStateException, UnsupportedOperationException {
        if (!isPlace(x, y) || !isPlace(toX, toY) || (x == toX && y == toY)) {
            throw new IllegalArgumentException("no two places");
        }
        if (marks < FIRST_MARK || marks > BOTH_MARKS) {
            throw new IllegalArgumentException("no such marks");
        }
        int known = net.pieceBetween(x, y, toX, toY);
        if (known == NONE) {
            if (net.isInTheWayOf(x, y, toX, toY)) {
                throw new IllegalStateException("it has more than an end in common with a piece");
            }
            if (net.pieces() >= MOST) {
                throw new UnsupportedOperationException("too many pieces");
            }
            known = net.addPiece(x, y, toX, toY);
        }
        net.turnMarks(known, marks);
        result.forget();
        return net.pieces();
    }

    public int clear() {
        int were = net.pieces();
        net.forget();
        result.forget();
        return were;
    }

    public int overlay(int what)
            throws IllegalArgumentException, IllegalStateException, UnsupportedOperationException {
        // Whatever goes wrong below, the document wants no result to be left.
        result.forget();
        if (what < BOTH || what > SECOND) {
            throw new IllegalArgumentException("no such result");
        }
        if (!net.isClosed()) {
            throw new IllegalStateException("a drawing is not closed");
        }
        boundary.trace(net, what);
        rings.gather(net, boundary);
        if (rings.toldCorners() > MOST || rings.toldNumbers() > MOST) {
            throw new UnsupportedOperationException("too large a result");
        }
        result.tell(rings);
        return result.polygons;
    }

    public int plan(int i) throws IndexOutOfBoundsException {
        if (i < 0 || i >= result.plan.size) {
            throw new IndexOutOfBoundsException("no such number of the plan");
        }
        return result.plan.get(i);
    }

    public int ordinate(int i, int what) throws IndexOutOfBoundsException {
        if (i < 0 || i >= result.x.size) {
            throw new IndexOutOfBoundsException("no such corner");
        }
        if (what < 0 || what > 1) {
            throw new IndexOutOfBoundsException("neither x nor y");
        }
        return what == 0 ? result.x.get(i) : result.y.get(i);
    }

    public long area() {
        return result.twiceArea;
    }

    public int count(int what) {
        switch (what) {
            case 0:
                return net.pieces();
            case 1:
                return result.plan.size;
            case 2:
                return result.x.size;
            case 3:
                return result.polygons;
            default:
                return NONE;
        }
    }

    private static boolean isPlace(int x, int y) {
        return x >= -FARTHEST && x <= FARTHEST && y >= -FARTHEST && y <= FARTHEST;
    }

    /** Numbers in a row that is used again and again; no index outside of it reaches the array. */
    private static final class Row {
        private int[] held = new int[FIRST_ROOM];
        private int size = 0;

        void empty() {
            size = 0;
        }

        void shorten(int newSize) {
            if (newSize >= 0 && newSize < size) {
                size = newSize;
            }
        }

        void add(int number) {
            if (size >= held.length && size < MOST_ROOM) {
                held = Arrays.copyOf(held, 2 * size);
            }
            if (size < held.length) {
                held[size] = number;
                size++;
            }
        }

        int get(int i) {
            return i >= 0 && i < size ? held[i] : NONE;
        }

        void set(int i, int number) {
            if (i >= 0 && i < size) {
                held[i] = number;
            }
        }
    }

    /** What can be said of places by their numbers alone; no product here leaves a long. */
    private static final class Plane {
        private Plane() {
        }

        static boolean isLess(int x, int y, int otherX, int otherY) {
            return x < otherX || (x == otherX && y < otherY);
        }

        /** Where c lies, seen from a towards b: 1 to the left, -1 to the right, 0 on the line. */
        static int side(int ax, int ay, int bx, int by, int cx, int cy) {
            long rise = ((long) bx - ax) * ((long) cy - ay);
            long run = ((long) by - ay) * ((long) cx - ax);
            return rise > run ? 1 : (rise < run ? -1 : 0);
        }

        /** For a c on the line through a and b: whether it lies between them and is neither. */
        static boolean isBetween(int ax, int ay, int bx, int by, int cx, int cy) {
            if ((cx == ax && cy == ay) || (cx == bx && cy == by)) {
                return false;
            }
            return cx >= Math.min(ax, bx) && cx <= Math.max(ax, bx)
                    && cy >= Math.min(ay, by) && cy <= Math.max(ay, by);
        }

        static boolean isOn(int ax, int ay, int bx, int by, int cx, int cy) {
            if (side(ax, ay, bx, by, cx, cy) != 0) {
                return false;
            }
            return (cx == ax && cy == ay) || (cx == bx && cy == by)
                    || isBetween(ax, ay, bx, by, cx, cy);
        }

        /**
         * Whether the line to the right and a bit upwards crosses the piece. Its start comes
         * doubled, because the middle of a piece need not have whole numbers. As the line rises,
         * an end at the height of its start lies below it.
         */
        static boolean isCrossedFrom(long twiceX, long twiceY, int ax, int ay, int bx, int by) {
            boolean aboveA = 2L * ay > twiceY;
            boolean aboveB = 2L * by > twiceY;
            if (aboveA == aboveB) {
                return false;
            }
            long rise = ((long) bx - ax) * (twiceY - 2L * ay);
            long run = ((long) by - ay) * (twiceX - 2L * ax);
            return aboveB ? rise > run : rise < run;
        }

        /** Whether, turning right from the way back, one comes to the way d before the way e. */
        static boolean isSooner(int backX, int backY, int dx, int dy, int ex, int ey) {
            int turnD = turn(backX, backY, dx, dy);
            int turnE = turn(backX, backY, ex, ey);
            if (turnD != turnE) {
                return turnD < turnE;
            }
            return (long) dx * ey < (long) dy * ex;
        }

        /** 0 less than half a turn to the right, 1 just half a turn, 2 more. */
        private static int turn(int backX, int backY, int dx, int dy) {
            return 1 + Long.compare((long) backX * dy, (long) backY * dx);
        }
    }

    /** The pieces and the places where they end; of a piece, from is less than to. */
    private static final class Net {
        private final Row x = new Row();
        private final Row y = new Row();
        /** Of each place: the marks of the drawings of which an odd number of pieces ends there. */
        private final Row odd = new Row();
        private final Row from = new Row();
        private final Row to = new Row();
        private final Row marks = new Row();

        int pieces() {
            return marks.size;
        }

        int places() {
            return odd.size;
        }

        void forget() {
            x.empty();
            y.empty();
            odd.empty();
            from.empty();
            to.empty();
            marks.empty();
        }

        int placeAt(int placeX, int placeY) {
            for (int i = 0; i < places(); i++) {
                if (x.get(i) == placeX && y.get(i) == placeY) {
                    return i;
                }
            }
            return NONE;
        }

        int pieceBetween(int oneX, int oneY, int otherX, int otherY) {
            int one = placeAt(oneX, oneY);
            int other = placeAt(otherX, otherY);
            if (one == NONE || other == NONE) {
                return NONE;
            }
            for (int k = 0; k < pieces(); k++) {
                int a = from.get(k);
                int b = to.get(k);
                if ((a == one && b == other) || (a == other && b == one)) {
                    return k;
                }
            }
            return NONE;
        }

        int addPiece(int oneX, int oneY, int otherX, int otherY) {
            int one = knownPlace(oneX, oneY);
            int other = knownPlace(otherX, otherY);
            boolean inOrder = Plane.isLess(oneX, oneY, otherX, otherY);
            from.add(inOrder ? one : other);
            to.add(inOrder ? other : one);
            marks.add(0);
            return marks.size - 1;
        }

        private int knownPlace(int placeX, int placeY) {
            int known = placeAt(placeX, placeY);
            if (known != NONE) {
                return known;
            }
            x.add(placeX);
            y.add(placeY);
            odd.add(0);
            return odd.size - 1;
        }

        void turnMarks(int k, int turned) {
            marks.set(k, marks.get(k) ^ turned);
            odd.set(from.get(k), odd.get(from.get(k)) ^ turned);
            odd.set(to.get(k), odd.get(to.get(k)) ^ turned);
        }

        boolean isClosed() {
            for (int i = 0; i < places(); i++) {
                if (odd.get(i) != 0) {
                    return false;
                }
            }
            return true;
        }

        boolean isInTheWayOf(int oneX, int oneY, int otherX, int otherY) {
            for (int k = 0; k < pieces(); k++) {
                if (clashes(k, oneX, oneY, otherX, otherY)) {
                    return true;
                }
            }
            return false;
        }

        /**
         * Two pieces that are not the same have more than an end in common just when they cross,
         * or when an end of one lies within the other.
         */
        private boolean clashes(int k, int px, int py, int qx, int qy) {
            int ax = x.get(from.get(k));
            int ay = y.get(from.get(k));
            int bx = x.get(to.get(k));
            int by = y.get(to.get(k));
            int sideP = Plane.side(ax, ay, bx, by, px, py);
            int sideQ = Plane.side(ax, ay, bx, by, qx, qy);
            int sideA = Plane.side(px, py, qx, qy, ax, ay);
            int sideB = Plane.side(px, py, qx, qy, bx, by);
            if (sideP * sideQ < 0 && sideA * sideB < 0) {
                return true;
            }
            return (sideP == 0 && Plane.isBetween(ax, ay, bx, by, px, py))
                    || (sideQ == 0 && Plane.isBetween(ax, ay, bx, by, qx, qy))
                    || (sideA == 0 && Plane.isBetween(px, py, qx, qy, ax, ay))
                    || (sideB == 0 && Plane.isBetween(px, py, qx, qy, bx, by));
        }

        /** The marks of the drawings that have the left of piece k, going from its lesser end, inside. */
        int insideLeftOf(int k) {
            int a = from.get(k);
            int b = to.get(k);
            long twiceX = (long) x.get(a) + x.get(b);
            long twiceY = (long) y.get(a) + y.get(b);
            int inside = 0;
            for (int q = 0; q < pieces(); q++) {
                if (q != k && isCrossedFrom(twiceX, twiceY, q)) {
                    inside ^= marks.get(q);
                }
            }
            // The line from the middle leaves a piece that rises on its right.
            boolean leavesRight = y.get(b) > y.get(a);
            return leavesRight ? inside ^ marks.get(k) : inside;
        }

        private boolean isCrossedFrom(long twiceX, long twiceY, int k) {
            int a = from.get(k);
            int b = to.get(k);
            return Plane.isCrossedFrom(twiceX, twiceY, x.get(a), y.get(a), x.get(b), y.get(b));
        }

        boolean isPlaceLess(int a, int b) {
            return Plane.isLess(x.get(a), y.get(a), x.get(b), y.get(b));
        }

        boolean isStraight(int a, int b, int c) {
            return Plane.side(x.get(a), y.get(a), x.get(b), y.get(b), x.get(c), y.get(c)) == 0;
        }

        /** Whether, at a place and turning right from the one before, d comes sooner than e. */
        boolean isSooner(int at, int before, int d, int e) {
            int atX = x.get(at);
            int atY = y.get(at);
            return Plane.isSooner(x.get(before) - atX, y.get(before) - atY,
                    x.get(d) - atX, y.get(d) - atY, x.get(e) - atX, y.get(e) - atY);
        }
    }

    /** The pieces of which just one side is in the result, each as a way with the result to its left. */
    private static final class Boundary {
        private final Row from = new Row();
        private final Row to = new Row();
        private final Row next = new Row();
        /** Of each place: a way that starts there; alsoFrom has the others of it. */
        private final Row wayFrom = new Row();
        private final Row alsoFrom = new Row();

        int ways() {
            return from.size;
        }

        void trace(Net net, int what) {
            from.empty();
            to.empty();
            next.empty();
            wayFrom.empty();
            alsoFrom.empty();
            for (int i = 0; i < net.places(); i++) {
                wayFrom.add(NONE);
            }
            for (int k = 0; k < net.pieces(); k++) {
                if (net.marks.get(k) != 0) {
                    addIfBoundary(net, k, what);
                }
            }
            for (int way = 0; way < ways(); way++) {
                next.add(wayBehind(net, way));
            }
        }

        private void addIfBoundary(Net net, int k, int what) {
            int insideLeft = net.insideLeftOf(k);
            int insideRight = insideLeft ^ net.marks.get(k);
            boolean left = isInResult(what, insideLeft);
            boolean right = isInResult(what, insideRight);
            if (left && !right) {
                addWay(net.from.get(k), net.to.get(k));
            } else if (right && !left) {
                addWay(net.to.get(k), net.from.get(k));
            }
        }

        private void addWay(int start, int end) {
            from.add(start);
            to.add(end);
            alsoFrom.add(wayFrom.get(start));
            wayFrom.set(start, from.size - 1);
        }

        /**
         * All boundary pieces at a place are not needed, only the ways that start there: the first
         * piece to the right of the way back has the result between them, so it is such a way.
         */
        private int wayBehind(Net net, int way) {
            int at = to.get(way);
            int before = from.get(way);
            int best = wayFrom.get(at);
            int other = alsoFrom.get(best);
            for (int seen = 0; seen < ways() && other != NONE; seen++) {
                if (net.isSooner(at, before, to.get(other), to.get(best))) {
                    best = other;
                }
                other = alsoFrom.get(other);
            }
            return best;
        }

        private static boolean isInResult(int what, int inside) {
            switch (what) {
                case BOTH:
                    return inside == BOTH_MARKS;
                case EITHER:
                    return inside != 0;
                case FIRST:
                    return inside == FIRST_MARK;
                case ONE:
                    return inside == FIRST_MARK || inside == SECOND_MARK;
                default:
                    return inside == SECOND_MARK;
            }
        }
    }

    /** The rings of a boundary, each by its corners without the last one; shells go left round. */
    private static final class Rings {
        private final Row x = new Row();
        private final Row y = new Row();
        private final Row start = new Row();
        private final Row order = new Row();
        /** Of each ring: the shell that it belongs to, a shell to itself. */
        private final Row owner = new Row();
        private int shells = 0;

        private final Row path = new Row();
        /** Of each place: where on the path it is left. */
        private final Row leftAt = new Row();
        private final Row gone = new Row();

        int toldCorners() {
            return x.size + start.size;
        }

        int toldNumbers() {
            return 2 + 2 * shells + start.size;
        }

        int startOf(int ring) {
            return start.get(ring);
        }

        int endOf(int ring) {
            return ring + 1 < start.size ? start.get(ring + 1) : x.size;
        }

        void gather(Net net, Boundary boundary) {
            prepare(net, boundary);
            for (int way = 0; way < boundary.ways(); way++) {
                if (gone.get(way) == 0) {
                    walk(net, boundary, way);
                }
            }
            for (int ring = 0; ring < start.size; ring++) {
                putInOrder(ring);
                owner.add(ownerOf(ring));
                shells += owner.get(ring) == ring ? 1 : 0;
            }
        }

        private void prepare(Net net, Boundary boundary) {
            x.empty();
            y.empty();
            start.empty();
            order.empty();
            owner.empty();
            shells = 0;
            path.empty();
            leftAt.empty();
            gone.empty();
            for (int i = 0; i < net.places(); i++) {
                leftAt.add(NONE);
            }
            for (int way = 0; way < boundary.ways(); way++) {
                gone.add(0);
            }
        }

        /** Goes on until it comes to a way again, which is the one it began with. */
        private void walk(Net net, Boundary boundary, int firstWay) {
            int way = firstWay;
            for (int step = 0; step < boundary.ways() && gone.get(way) == 0; step++) {
                gone.set(way, 1);
                leftAt.set(boundary.from.get(way), path.size);
                path.add(boundary.from.get(way));
                int at = boundary.to.get(way);
                if (leftAt.get(at) != NONE) {
                    takeRing(net, leftAt.get(at));
                }
                way = boundary.next.get(way);
            }
        }

        /** The places of the path from number begin on are a ring, and the way goes on without it. */
        private void takeRing(Net net, int begin) {
            int end = path.size;
            int least = begin;
            for (int i = begin; i < end; i++) {
                leftAt.set(path.get(i), NONE);
                if (net.isPlaceLess(path.get(i), path.get(least))) {
                    least = i;
                }
            }
            start.add(x.size);
            addCorners(net, least, begin, end);
            path.shorten(begin);
        }

        private void addCorners(Net net, int least, int begin, int end) {
            int i = least;
            for (int seen = begin; seen < end; seen++) {
                int before = i > begin ? i - 1 : end - 1;
                int behind = i + 1 < end ? i + 1 : begin;
                int place = path.get(i);
                if (!net.isStraight(path.get(before), place, path.get(behind))) {
                    x.add(net.x.get(place));
                    y.add(net.y.get(place));
                }
                i = behind;
            }
        }

        /** More than zero for a shell, less for a hole. The sums may leave a long on the way, not at the end. */
        long twiceAreaOf(int ring) {
            int last = endOf(ring) - 1;
            long sum = 0;
            for (int i = startOf(ring); i <= last; i++) {
                int j = i < last ? i + 1 : startOf(ring);
                sum += (long) x.get(i) * y.get(j) - (long) x.get(j) * y.get(i);
            }
            return sum;
        }

        private void putInOrder(int ring) {
            order.add(ring);
            int i = order.size - 1;
            for (; i > 0 && comesBefore(ring, order.get(i - 1)); i--) {
                order.set(i, order.get(i - 1));
            }
            order.set(i, ring);
        }

        /** By the first corners, of equal ones by the second; two rings have no piece in common. */
        private boolean comesBefore(int ring, int other) {
            int i = startOf(ring);
            int j = startOf(other);
            if (x.get(i) == x.get(j) && y.get(i) == y.get(j)) {
                i++;
                j++;
            }
            return Plane.isLess(x.get(i), y.get(i), x.get(j), y.get(j));
        }

        private int ownerOf(int ring) {
            long size = twiceAreaOf(ring);
            if (size > 0) {
                return ring;
            }
            int smallest = NONE;
            long smallestSize = 0;
            for (int shell = 0; shell < start.size; shell++) {
                long shellSize = twiceAreaOf(shell);
                boolean fits = shellSize > -size && (smallest == NONE || shellSize < smallestSize);
                if (fits && liesIn(ring, shell)) {
                    smallest = shell;
                    smallestSize = shellSize;
                }
            }
            return smallest;
        }

        /** Rings may touch but do not cross, so any corner off the shell can tell. */
        private boolean liesIn(int hole, int shell) {
            for (int i = startOf(hole); i < endOf(hole); i++) {
                if (!isOnRing(shell, x.get(i), y.get(i))) {
                    return isInRing(shell, x.get(i), y.get(i));
                }
            }
            return false;
        }

        private boolean isOnRing(int ring, int placeX, int placeY) {
            int before = endOf(ring) - 1;
            for (int i = startOf(ring); i < endOf(ring); i++) {
                if (Plane.isOn(x.get(before), y.get(before), x.get(i), y.get(i), placeX, placeY)) {
                    return true;
                }
                before = i;
            }
            return false;
        }

        private boolean isInRing(int ring, int placeX, int placeY) {
            boolean inside = false;
            int before = endOf(ring) - 1;
            for (int i = startOf(ring); i < endOf(ring); i++) {
                if (Plane.isCrossedFrom(2L * placeX, 2L * placeY,
                        x.get(before), y.get(before), x.get(i), y.get(i))) {
                    inside = !inside;
                }
                before = i;
            }
            return inside;
        }
    }

    /** A result as it is told; without one all of it is empty. */
    private static final class Multipolygon {
        private final Row plan = new Row();
        private final Row x = new Row();
        private final Row y = new Row();
        private int polygons = 0;
        private long twiceArea = 0;

        void forget() {
            plan.empty();
            x.empty();
            y.empty();
            polygons = 0;
            twiceArea = 0;
        }

        void tell(Rings rings) {
            polygons = rings.shells;
            plan.add(MULTIPOLYGON);
            plan.add(polygons);
            for (int i = 0; i < rings.order.size; i++) {
                int ring = rings.order.get(i);
                if (rings.owner.get(ring) == ring) {
                    tellPolygon(rings, ring);
                }
            }
        }

        private void tellPolygon(Rings rings, int shell) {
            plan.add(POLYGON);
            int many = plan.size;
            plan.add(1);
            tellRing(rings, shell);
            for (int i = 0; i < rings.order.size; i++) {
                int ring = rings.order.get(i);
                if (ring != shell && rings.owner.get(ring) == shell) {
                    plan.set(many, plan.get(many) + 1);
                    tellRing(rings, ring);
                }
            }
        }

        private void tellRing(Rings rings, int ring) {
            int start = rings.startOf(ring);
            int end = rings.endOf(ring);
            for (int i = start; i < end; i++) {
                x.add(rings.x.get(i));
                y.add(rings.y.get(i));
            }
            x.add(rings.x.get(start));
            y.add(rings.y.get(start));
            plan.add(end - start + 1);
            twiceArea += rings.twiceAreaOf(ring);
        }
    }
}
