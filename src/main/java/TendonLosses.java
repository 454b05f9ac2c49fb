/**
 * Tendons in a bridge, in whole numbers. The document (DOC.md) tells what each call answers; the
 * words written large there (PIECE, TURN, SLIP ..) are used here in the same sense.
 *
 * Forces and all products of them are long: the greatest product, two forces of ten million
 * newtons times a length times 1,000, stays far below what a long holds.
 */
public final class TendonLosses {
    public static final int BAD = -1;

    private static final int NONE = -2_000_000_000;

    private static final int MOST_TENDONS = 6;
    private static final int MOST_POINTS = 10;
    private static final int LEAST_AREA = 50;
    private static final int MOST_AREA = 10_000;
    private static final int MOST_X = 100_000;
    private static final int LEAST_RISE_OF_X = 100;
    private static final int MOST_Y = 3_000;

    private static final int MOST_ROUGH = 1_000;
    private static final int MOST_MU = 500;
    private static final int MOST_SLIP = 20_000;
    private static final int MOST_SHARE = 100;
    private static final int MOST_FADE = 1_000;
    private static final int MOST_FORCE = 10_000_000;
    private static final int MOST_DAYS = 1_000;
    private static final int MOST_APART = 1_000;
    private static final int MOST_STEP = 200_000;
    private static final int MOST_STEPS = 50;

    /** Ends that are pulled are bits, so that BOTH is the one and the other. */
    private static final int BEGINNING = 1;
    private static final int END = 2;
    private static final int BOTH = 3;

    private static final int FREE = 0;
    private static final int PULLED = 1;
    private static final int LOCKED = 2;

    private static final long STIFFNESS = 195_000;
    private static final long BILLION = 1_000_000_000;
    private static final long MILLION = 1_000_000;
    private static final long THOUSAND = 1_000;

    /** More halvings than any int needs: the bound of both searches. */
    private static final int MOST_HALVINGS = 40;

    private final Tendon[] tendons;
    private final int[] lockedOnes;
    private final Friction friction;
    private int tendonCount;
    private int lockedCount;
    private int dayCount;
    private int slip;
    private int share;
    private int fade;

    public TendonLosses() {
        tendons = new Tendon[MOST_TENDONS];
        lockedOnes = new int[MOST_TENDONS];
        friction = new Friction();
        tendonCount = 0;
        lockedCount = 0;
        dayCount = 0;
        slip = 0;
        share = 10;
        fade = 3;
    }

    public int tendon(int area) {
        if (!isWithin(area, LEAST_AREA, MOST_AREA) || tendonCount >= MOST_TENDONS) {
            return BAD;
        }
        int which = tendonCount;
        tendons[which] = new Tendon(area);
        tendonCount = which + 1;
        return which;
    }

    public int point(int tendon, int x, int y) {
        Tendon t = find(tendon);
        if (t == null || t.state != FREE || !t.duct.mayGoOnTo(x, y)) {
            return BAD;
        }
        t.duct.goOnTo(x, y);
        return t.duct.size;
    }

    public boolean friction(int rough, int mu) {
        if (!isWithin(rough, 0, MOST_ROUGH) || !isWithin(mu, 0, MOST_MU)) {
            return false;
        }
        friction.rough = rough;
        friction.mu = mu;
        return true;
    }

    public boolean losses(int slip, int share, int fade) {
        if (!isWithin(slip, 0, MOST_SLIP) || !isWithin(share, 0, MOST_SHARE)
                || !isWithin(fade, 0, MOST_FADE)) {
            return false;
        }
        this.slip = slip;
        this.share = share;
        this.fade = fade;
        return true;
    }

    public int pull(int tendon, int from, int force) {
        Tendon t = find(tendon);
        if (t == null || t.state == LOCKED || !t.duct.hasPieces()
                || !isWithin(from, BEGINNING, BOTH) || !isWithin(force, 1, MOST_FORCE)) {
            return BAD;
        }
        t.startPulling(from, force, friction);
        return (int) t.stretch();
    }

    public int lock(int tendon) {
        Tendon t = find(tendon);
        if (t == null || t.state != PULLED || lockedCount >= MOST_TENDONS) {
            return BAD;
        }
        long before = t.stretch();
        t.slipBack(slip, friction);
        t.state = LOCKED;
        weakenLockedOnes(t.meanForce() * share / THOUSAND);
        lockedOnes[lockedCount] = tendon;
        lockedCount++;
        return (int) (before - t.stretch());
    }

    public boolean cut(int tendon) {
        Tendon t = find(tendon);
        if (t == null || t.state == FREE) {
            return false;
        }
        if (t.state == LOCKED) {
            forgetLocked(tendon);
        }
        t.state = FREE;
        return true;
    }

    public int days(int many) {
        if (!isWithin(many, 1, MOST_DAYS)) {
            return BAD;
        }
        for (int k = 0; k < lockedCount; k++) {
            Tendon t = find(lockedOnes[k]);
            if (t != null) {
                t.fadeAway(many, fade);
            }
        }
        dayCount += many;
        return dayCount;
    }

    public int force(int tendon, int point) {
        Tendon t = findStrained(tendon);
        return t == null || !t.duct.hasPoint(point) ? BAD : (int) t.forces[point];
    }

    public int at(int tendon, int x) {
        Tendon t = findStrained(tendon);
        if (t == null) {
            return BAD;
        }
        int piece = t.duct.pieceOver(x);
        return piece < 0 ? BAD : (int) t.forceOn(piece, x);
    }

    public int longer(int tendon) {
        Tendon t = findStrained(tendon);
        return t == null ? BAD : (int) t.stretch();
    }

    public int piece(int tendon, int piece, int what) {
        Tendon t = find(tendon);
        if (t == null || !t.duct.hasPiece(piece)) {
            return BAD;
        }
        switch (what) {
            case 0:
                return t.duct.lengths[piece];
            case 1:
                return t.duct.slopes[piece];
            case 2:
                return t.duct.turnAt(piece + 1);
            default:
                return BAD;
        }
    }

    public int presses(int tendon, int point) {
        Tendon t = findStrained(tendon);
        if (t == null || !t.duct.isBetweenPieces(point)) {
            return NONE;
        }
        return (int) (t.forces[point] * t.duct.bendAt(point) / THOUSAND);
    }

    public boolean clash(int a, int b, int apart) {
        Tendon one = find(a);
        Tendon other = find(b);
        if (one == null || other == null || a == b || !isWithin(apart, 0, MOST_APART)) {
            return false;
        }
        return Duct.comeNearer(one.duct, other.duct, apart);
    }

    public int locked(int k) {
        return isWithin(k, 0, lockedCount - 1) ? lockedOnes[k] : BAD;
    }

    public int wanted(int tendon, int from, int step, int least) {
        Tendon t = find(tendon);
        if (t == null || !t.duct.hasPieces() || !isWithin(from, BEGINNING, BOTH)
                || !isWithin(step, 1, MOST_STEP)) {
            return BAD;
        }
        for (int steps = 0; steps <= MOST_STEPS; steps++) {
            int force = steps * step;
            if (t.leastForceIfPulled(from, force, friction) >= least) {
                return force;
            }
        }
        return BAD;
    }

    public int count(int what) {
        switch (what) {
            case 0:
                return tendonCount;
            case 1:
                return lockedCount;
            case 2:
                return countPulled();
            case 3:
                return dayCount;
            case 4:
                return countPoints();
            default:
                return BAD;
        }
    }

    private static boolean isWithin(int value, int least, int most) {
        return value >= least && value <= most;
    }

    /** The tendon of that number, or null. */
    private Tendon find(int tendon) {
        return isWithin(tendon, 0, tendonCount - 1) ? tendons[tendon] : null;
    }

    /** The tendon of that number if it has forces, being pulled or locked; else null. */
    private Tendon findStrained(int tendon) {
        Tendon t = find(tendon);
        return t == null || t.state == FREE ? null : t;
    }

    private void weakenLockedOnes(long loss) {
        for (int k = 0; k < lockedCount; k++) {
            Tendon t = find(lockedOnes[k]);
            if (t != null) {
                t.loseEverywhere(loss);
            }
        }
    }

    private void forgetLocked(int tendon) {
        int kept = 0;
        for (int k = 0; k < lockedCount; k++) {
            if (lockedOnes[k] != tendon) {
                lockedOnes[kept] = lockedOnes[k];
                kept++;
            }
        }
        lockedCount = kept;
    }

    private int countPulled() {
        int pulled = 0;
        for (int k = 0; k < tendonCount; k++) {
            Tendon t = find(k);
            if (t != null && t.state == PULLED) {
                pulled++;
            }
        }
        return pulled;
    }

    private int countPoints() {
        int points = 0;
        for (int k = 0; k < tendonCount; k++) {
            Tendon t = find(k);
            if (t != null) {
                points += t.duct.size;
            }
        }
        return points;
    }

    /** The quotient cut off towards 0; 0 where there is nothing to divide by. */
    private static long quotient(long value, long divisor) {
        return divisor == 0 ? 0 : value / divisor;
    }

    /** ROUGH and MU, and how much of a force they are worth. */
    private static final class Friction {
        int rough;
        int mu;

        Friction() {
            rough = 5;
            mu = 200;
        }

        long alongPiece(long force, int length) {
            return force * rough * length / BILLION;
        }

        long atTurn(long force, int turn) {
            return force * mu * turn / MILLION;
        }
    }

    /** The points of a tendon, and the length and slope of each piece between them. */
    private static final class Duct {
        final int[] xs;
        final int[] ys;
        final int[] lengths;
        final int[] slopes;
        int size;

        Duct() {
            xs = new int[MOST_POINTS];
            ys = new int[MOST_POINTS];
            lengths = new int[MOST_POINTS];
            slopes = new int[MOST_POINTS];
            size = 0;
        }

        boolean mayGoOnTo(int x, int y) {
            if (size >= MOST_POINTS || !isWithin(y, -MOST_Y, MOST_Y)) {
                return false;
            }
            int leastX = size == 0 ? 0 : xs[size - 1] + LEAST_RISE_OF_X;
            return isWithin(x, leastX, MOST_X);
        }

        void goOnTo(int x, int y) {
            if (size >= MOST_POINTS) {
                return;
            }
            xs[size] = x;
            ys[size] = y;
            size++;
            if (size > 1) {
                measurePiece(size - 2);
            }
        }

        private void measurePiece(int piece) {
            long width = widthOf(piece);
            long height = ys[piece + 1] - ys[piece];
            lengths[piece] = rootOf(width * width + height * height);
            slopes[piece] = (int) quotient(THOUSAND * height, width);
        }

        /** The greatest whole number whose square is not above the given one. */
        private static int rootOf(long square) {
            long low = 0;
            long high = 2L * MOST_X;
            for (int i = 0; i < MOST_HALVINGS && low < high; i++) {
                long middle = (low + high + 1) / 2;
                if (middle * middle <= square) {
                    low = middle;
                } else {
                    high = middle - 1;
                }
            }
            return (int) low;
        }

        boolean hasPoint(int point) {
            return isWithin(point, 0, size - 1);
        }

        boolean hasPiece(int piece) {
            return isWithin(piece, 0, size - 2);
        }

        boolean hasPieces() {
            return size >= 2;
        }

        boolean isBetweenPieces(int point) {
            return point > 0 && point < size - 1;
        }

        int widthOf(int piece) {
            return xs[piece + 1] - xs[piece];
        }

        /** The slope behind a point less the one before it; 0 at an end. */
        int bendAt(int point) {
            return isBetweenPieces(point) ? slopes[point] - slopes[point - 1] : 0;
        }

        int turnAt(int point) {
            return Math.abs(bendAt(point));
        }

        /** The piece that has a place x, its ends included; -1 if none has. */
        int pieceOver(int x) {
            for (int piece = 0; piece < size - 1; piece++) {
                if (isWithin(x, xs[piece], xs[piece + 1])) {
                    return piece;
                }
            }
            return -1;
        }

        /** The k-th point of the way that starts at that end. */
        int pointOnWay(int end, int k) {
            return end == END ? size - 1 - k : k;
        }

        /** The length of the piece that leads to the k-th point of the way, k being above 0. */
        int lengthBefore(int end, int k) {
            return lengths[end == END ? size - 1 - k : k - 1];
        }

        static boolean comeNearer(Duct a, Duct b, int apart) {
            for (int i = 0; i < a.size - 1; i++) {
                for (int j = 0; j < b.size - 1; j++) {
                    if (piecesComeNearer(a, i, b, j, apart)) {
                        return true;
                    }
                }
            }
            return false;
        }

        /** Between two pieces the distance is a straight line: its ends, or a crossing, tell all. */
        private static boolean piecesComeNearer(Duct a, int i, Duct b, int j, int apart) {
            int first = Math.max(a.xs[i], b.xs[j]);
            int last = Math.min(a.xs[i + 1], b.xs[j + 1]);
            if (first > last || apart <= 0) {
                return false;
            }
            long atFirst = scaledDistance(a, i, b, j, first);
            long atLast = scaledDistance(a, i, b, j, last);
            boolean cross = atFirst < 0 && atLast > 0 || atFirst > 0 && atLast < 0;
            long bound = (long) apart * a.widthOf(i) * b.widthOf(j);
            return cross || Math.abs(atFirst) < bound || Math.abs(atLast) < bound;
        }

        /** How far a lies above b at x, times both pieces' widths so that nothing is cut off. */
        private static long scaledDistance(Duct a, int i, Duct b, int j, int x) {
            return a.scaledHeight(i, x) * b.widthOf(j) - b.scaledHeight(j, x) * a.widthOf(i);
        }

        private long scaledHeight(int piece, int x) {
            long rise = ys[piece + 1] - ys[piece];
            return (long) ys[piece] * widthOf(piece) + rise * (x - xs[piece]);
        }
    }

    /** A duct with its steel, and the forces that it has while it is pulled or locked. */
    private static final class Tendon {
        final Duct duct;
        final int area;
        final long[] forces;
        /** Room for forces that are only tried: kept so that no call has to make it anew. */
        final long[] tried;
        int state;
        int pulledFrom;
        int pulledWith;

        Tendon(int area) {
            this.area = area;
            duct = new Duct();
            forces = new long[MOST_POINTS];
            tried = new long[MOST_POINTS];
            state = FREE;
            pulledFrom = 0;
            pulledWith = 0;
        }

        void startPulling(int from, int force, Friction friction) {
            strain(forces, from, force, friction);
            state = PULLED;
            pulledFrom = from;
            pulledWith = force;
        }

        long leastForceIfPulled(int from, int force, Friction friction) {
            strain(tried, from, force, friction);
            long least = force;
            for (int p = 0; p < duct.size; p++) {
                least = Math.min(least, tried[p]);
            }
            return least;
        }

        private void strain(long[] into, int from, int force, Friction friction) {
            for (int p = 0; p < duct.size; p++) {
                into[p] = 0;
            }
            if ((from & BEGINNING) != 0) {
                strainFromEnd(into, BEGINNING, force, friction);
            }
            if ((from & END) != 0) {
                strainFromEnd(into, END, force, friction);
            }
        }

        private void strainFromEnd(long[] into, int end, int force, Friction friction) {
            long here = force;
            for (int k = 0; k < duct.size; k++) {
                int p = duct.pointOnWay(end, k);
                if (k > 0) {
                    here -= friction.alongPiece(here, duct.lengthBefore(end, k));
                    here = Math.max(0, here - friction.atTurn(here, duct.turnAt(p)));
                }
                into[p] = Math.max(into[p], here);
            }
        }

        void slipBack(int slip, Friction friction) {
            if ((pulledFrom & BEGINNING) != 0) {
                slipAtEnd(BEGINNING, slip, friction);
            }
            if ((pulledFrom & END) != 0) {
                slipAtEnd(END, slip, friction);
            }
        }

        /** Halving is enough: the shortening never grows when the force at the anchor does. */
        private void slipAtEnd(int end, int slip, Friction friction) {
            int low = 0;
            int high = pulledWith;
            for (int i = 0; i < MOST_HALVINGS && low < high; i++) {
                int middle = (low + high + 1) / 2;
                tryAnchor(end, middle, friction);
                if (shortening() >= slip) {
                    low = middle;
                } else {
                    high = middle - 1;
                }
            }
            tryAnchor(end, low, friction);
            for (int p = 0; p < duct.size; p++) {
                forces[p] = tried[p];
            }
        }

        /** Puts into tried what the forces become with that one at the anchor. */
        private void tryAnchor(int end, int anchor, Friction friction) {
            for (int p = 0; p < duct.size; p++) {
                tried[p] = forces[p];
            }
            long here = anchor;
            for (int k = 0; k < duct.size; k++) {
                int p = duct.pointOnWay(end, k);
                if (k > 0) {
                    here += friction.alongPiece(here, duct.lengthBefore(end, k));
                    here += friction.atTurn(here, duct.turnAt(p));
                }
                if (here >= forces[p]) {
                    return;
                }
                tried[p] = here;
            }
        }

        /** By how much the forces that are tried make it shorter than those that it has. */
        private long shortening() {
            long sum = 0;
            for (int i = 0; i < duct.size - 1; i++) {
                sum += stretchOf(i, forces[i] - tried[i] + forces[i + 1] - tried[i + 1]);
            }
            return sum;
        }

        long stretch() {
            long sum = 0;
            for (int i = 0; i < duct.size - 1; i++) {
                sum += stretchOf(i, forces[i] + forces[i + 1]);
            }
            return sum;
        }

        private long stretchOf(int piece, long bothEnds) {
            return quotient(bothEnds * duct.lengths[piece] * THOUSAND, 2L * area * STIFFNESS);
        }

        long meanForce() {
            long sum = 0;
            for (int p = 0; p < duct.size; p++) {
                sum += forces[p];
            }
            return quotient(sum, duct.size);
        }

        void loseEverywhere(long loss) {
            for (int p = 0; p < duct.size; p++) {
                forces[p] = Math.max(0, forces[p] - loss);
            }
        }

        void fadeAway(int days, int fade) {
            for (int p = 0; p < duct.size; p++) {
                for (int day = 0; day < days; day++) {
                    forces[p] -= forces[p] * fade / MILLION;
                }
            }
        }

        /** The force at a place x of a piece, on the straight line between its ends' forces. */
        long forceOn(int piece, int x) {
            long difference = forces[piece + 1] - forces[piece];
            long way = x - duct.xs[piece];
            return forces[piece] + quotient(difference * way, duct.widthOf(piece));
        }
    }
}
