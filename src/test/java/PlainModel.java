import java.math.BigInteger;
import java.util.ArrayList;
import java.util.List;
import java.util.TreeSet;

/**
 * The document once more, as slow and plain as can be: numbers without bounds, nothing remembered
 * that can be reckoned anew, and the force at an anchor sought by going down newton by newton.
 */
final class PlainModel {
    static final int BAD = -1;
    static final int NONE = -2_000_000_000;

    private static final class Rope {
        final int area;
        final List<int[]> points = new ArrayList<>();
        List<BigInteger> forces = null;
        boolean isLocked = false;
        int from;
        int pull;

        Rope(int area) {
            this.area = area;
        }

        int pieces() {
            return Math.max(0, points.size() - 1);
        }
    }

    private final List<Rope> ropes = new ArrayList<>();
    private final List<Integer> order = new ArrayList<>();
    private int rough = 5;
    private int mu = 200;
    private int slip = 0;
    private int share = 10;
    private int fade = 3;
    private int dayCount = 0;

    private static BigInteger big(long value) {
        return BigInteger.valueOf(value);
    }

    /** BigInteger's divide cuts off towards 0. */
    private static BigInteger part(BigInteger value, long divisor, long... factors) {
        BigInteger product = value;
        for (long factor : factors) {
            product = product.multiply(big(factor));
        }
        return product.divide(big(divisor));
    }

    private Rope rope(int tendon) {
        return tendon < 0 || tendon >= ropes.size() ? null : ropes.get(tendon);
    }

    private static int dx(Rope rope, int piece) {
        return rope.points.get(piece + 1)[0] - rope.points.get(piece)[0];
    }

    private static int dy(Rope rope, int piece) {
        return rope.points.get(piece + 1)[1] - rope.points.get(piece)[1];
    }

    private static int length(Rope rope, int piece) {
        BigInteger x = big(dx(rope, piece));
        BigInteger y = big(dy(rope, piece));
        return x.multiply(x).add(y.multiply(y)).sqrt().intValueExact();
    }

    private static int slope(Rope rope, int piece) {
        return part(big(dy(rope, piece)), dx(rope, piece), 1000).intValueExact();
    }

    private static int turn(Rope rope, int point) {
        boolean isEnd = point == 0 || point == rope.points.size() - 1;
        return isEnd ? 0 : Math.abs(slope(rope, point) - slope(rope, point - 1));
    }

    private List<BigInteger> pulled(Rope rope, int from, int force) {
        int n = rope.points.size();
        BigInteger[] best = new BigInteger[n];
        for (int p = 0; p < n; p++) {
            best[p] = big(0);
        }
        if (from == 1 || from == 3) {
            BigInteger f = big(force);
            best[0] = f;
            for (int p = 1; p < n; p++) {
                f = less(f, length(rope, p - 1), turn(rope, p));
                best[p] = best[p].max(f);
            }
        }
        if (from == 2 || from == 3) {
            BigInteger f = big(force);
            best[n - 1] = best[n - 1].max(f);
            for (int p = n - 2; p >= 0; p--) {
                f = less(f, length(rope, p), turn(rope, p));
                best[p] = best[p].max(f);
            }
        }
        return new ArrayList<>(List.of(best));
    }

    private BigInteger less(BigInteger force, int length, int turn) {
        BigInteger behind = force.subtract(part(force, 1_000_000_000, rough, length));
        return behind.subtract(part(behind, 1_000_000, mu, turn)).max(big(0));
    }

    private BigInteger more(BigInteger force, int length, int turn) {
        BigInteger behind = force.add(part(force, 1_000_000_000, rough, length));
        return behind.add(part(behind, 1_000_000, mu, turn));
    }

    private List<BigInteger> slipped(Rope rope, boolean atEnd, long anchor) {
        int n = rope.points.size();
        List<BigInteger> result = new ArrayList<>(rope.forces);
        BigInteger f = big(anchor);
        int p = atEnd ? n - 1 : 0;
        while (p >= 0 && p < n && f.compareTo(rope.forces.get(p)) < 0) {
            result.set(p, f);
            int next = atEnd ? p - 1 : p + 1;
            if (next >= 0 && next < n) {
                f = more(f, length(rope, Math.min(p, next)), turn(rope, next));
            }
            p = next;
        }
        return result;
    }

    private static BigInteger stretch(Rope rope, List<BigInteger> forces) {
        BigInteger sum = big(0);
        for (int i = 0; i < rope.pieces(); i++) {
            BigInteger both = forces.get(i).add(forces.get(i + 1));
            sum = sum.add(part(both, 2L * rope.area * 195_000, length(rope, i), 1000));
        }
        return sum;
    }

    private static BigInteger shortening(Rope rope, List<BigInteger> behind) {
        List<BigInteger> missing = new ArrayList<>();
        for (int p = 0; p < behind.size(); p++) {
            missing.add(rope.forces.get(p).subtract(behind.get(p)));
        }
        return stretch(rope, missing);
    }

    /** The strides only spare time: from each the next smaller one goes on, at last newton by newton. */
    private void slipAt(Rope rope, boolean atEnd) {
        long anchor = rope.pull;
        long[] strides = rope.pull <= 3000 ? new long[] {1} : new long[] {100_000, 1000, 50, 1};
        for (long stride : strides) {
            while (anchor > 0 && shortening(rope, slipped(rope, atEnd, anchor)).compareTo(big(slip)) < 0) {
                anchor = Math.max(0, anchor - stride);
            }
            if (stride > 1) {
                anchor = Math.min(rope.pull, anchor + stride);
            }
        }
        rope.forces = slipped(rope, atEnd, anchor);
    }

    int tendon(int area) {
        if (area < 50 || area > 10_000 || ropes.size() == 6) {
            return BAD;
        }
        ropes.add(new Rope(area));
        return ropes.size() - 1;
    }

    int point(int tendon, int x, int y) {
        Rope rope = rope(tendon);
        if (rope == null || rope.forces != null || rope.points.size() == 10 || x < 0 || x > 100_000
                || y < -3000 || y > 3000) {
            return BAD;
        }
        if (!rope.points.isEmpty() && x < rope.points.get(rope.points.size() - 1)[0] + 100) {
            return BAD;
        }
        rope.points.add(new int[] {x, y});
        return rope.points.size();
    }

    boolean friction(int newRough, int newMu) {
        if (newRough < 0 || newRough > 1000 || newMu < 0 || newMu > 500) {
            return false;
        }
        rough = newRough;
        mu = newMu;
        return true;
    }

    boolean losses(int newSlip, int newShare, int newFade) {
        if (newSlip < 0 || newSlip > 20_000 || newShare < 0 || newShare > 100 || newFade < 0
                || newFade > 1000) {
            return false;
        }
        slip = newSlip;
        share = newShare;
        fade = newFade;
        return true;
    }

    int pull(int tendon, int from, int force) {
        Rope rope = rope(tendon);
        if (rope == null || rope.isLocked || rope.pieces() < 1 || from < 1 || from > 3 || force < 1
                || force > 10_000_000) {
            return BAD;
        }
        rope.forces = pulled(rope, from, force);
        rope.from = from;
        rope.pull = force;
        return stretch(rope, rope.forces).intValueExact();
    }

    int lock(int tendon) {
        Rope rope = rope(tendon);
        if (rope == null || rope.forces == null || rope.isLocked) {
            return BAD;
        }
        BigInteger before = stretch(rope, rope.forces);
        if (rope.from != 2) {
            slipAt(rope, false);
        }
        if (rope.from != 1) {
            slipAt(rope, true);
        }
        BigInteger sum = big(0);
        for (BigInteger f : rope.forces) {
            sum = sum.add(f);
        }
        BigInteger loss = part(part(sum, rope.points.size()), 1000, share);
        for (int earlier : order) {
            List<BigInteger> forces = ropes.get(earlier).forces;
            forces.replaceAll(f -> f.subtract(loss.min(f)));
        }
        rope.isLocked = true;
        order.add(tendon);
        return before.subtract(stretch(rope, rope.forces)).intValueExact();
    }

    boolean cut(int tendon) {
        Rope rope = rope(tendon);
        if (rope == null || rope.forces == null) {
            return false;
        }
        rope.forces = null;
        rope.isLocked = false;
        order.remove((Integer) tendon);
        return true;
    }

    int days(int many) {
        if (many < 1 || many > 1000) {
            return BAD;
        }
        for (int day = 0; day < many; day++) {
            for (int tendon : order) {
                ropes.get(tendon).forces.replaceAll(f -> f.subtract(part(f, 1_000_000, fade)));
            }
        }
        dayCount += many;
        return dayCount;
    }

    int force(int tendon, int point) {
        Rope rope = rope(tendon);
        if (rope == null || rope.forces == null || point < 0 || point >= rope.points.size()) {
            return BAD;
        }
        return rope.forces.get(point).intValueExact();
    }

    int at(int tendon, int x) {
        Rope rope = rope(tendon);
        if (rope == null || rope.forces == null) {
            return BAD;
        }
        for (int i = rope.pieces() - 1; i >= 0; i--) {
            int first = rope.points.get(i)[0];
            if (x >= first && x <= rope.points.get(i + 1)[0]) {
                BigInteger f = rope.forces.get(i);
                BigInteger difference = rope.forces.get(i + 1).subtract(f);
                return f.add(part(difference, dx(rope, i), x - first)).intValueExact();
            }
        }
        return BAD;
    }

    int longer(int tendon) {
        Rope rope = rope(tendon);
        return rope == null || rope.forces == null ? BAD : stretch(rope, rope.forces).intValueExact();
    }

    int piece(int tendon, int piece, int what) {
        Rope rope = rope(tendon);
        if (rope == null || piece < 0 || piece >= rope.pieces() || what < 0 || what > 2) {
            return BAD;
        }
        return what == 0 ? length(rope, piece) : what == 1 ? slope(rope, piece) : turn(rope, piece + 1);
    }

    int presses(int tendon, int point) {
        Rope rope = rope(tendon);
        if (rope == null || rope.forces == null || point < 1 || point >= rope.pieces()) {
            return NONE;
        }
        int bend = slope(rope, point) - slope(rope, point - 1);
        return part(rope.forces.get(point), 1000, bend).intValueExact();
    }

    /** At every x where one of both has a point, as fractions; and a crossing between two of these. */
    boolean clash(int a, int b, int apart) {
        Rope one = rope(a);
        Rope other = rope(b);
        if (one == null || other == null || a == b || one.pieces() < 1 || other.pieces() < 1
                || apart < 1 || apart > 1000) {
            return false;
        }
        TreeSet<Integer> places = new TreeSet<>();
        one.points.forEach(p -> places.add(p[0]));
        other.points.forEach(p -> places.add(p[0]));
        int signBefore = 0;
        for (int x : places) {
            BigInteger[] first = height(one, x);
            BigInteger[] second = height(other, x);
            if (first == null || second == null) {
                continue;
            }
            BigInteger top = first[0].multiply(second[1]).subtract(second[0].multiply(first[1]));
            BigInteger bottom = first[1].multiply(second[1]);
            if (top.abs().compareTo(bottom.multiply(big(apart))) < 0 || top.signum() * signBefore < 0) {
                return true;
            }
            signBefore = top.signum();
        }
        return false;
    }

    private static BigInteger[] height(Rope rope, int x) {
        for (int i = 0; i < rope.pieces(); i++) {
            int first = rope.points.get(i)[0];
            if (x >= first && x <= rope.points.get(i + 1)[0]) {
                long top = (long) rope.points.get(i)[1] * dx(rope, i) + (long) dy(rope, i) * (x - first);
                return new BigInteger[] {big(top), big(dx(rope, i))};
            }
        }
        return null;
    }

    int locked(int k) {
        return k < 0 || k >= order.size() ? BAD : order.get(k);
    }

    int wanted(int tendon, int from, int step, int least) {
        Rope rope = rope(tendon);
        if (rope == null || rope.pieces() < 1 || from < 1 || from > 3 || step < 1 || step > 200_000) {
            return BAD;
        }
        for (int i = 0; i <= 50; i++) {
            boolean isEnough = true;
            for (BigInteger f : pulled(rope, from, i * step)) {
                isEnough &= f.compareTo(big(least)) >= 0;
            }
            if (isEnough) {
                return i * step;
            }
        }
        return BAD;
    }

    int count(int what) {
        switch (what) {
            case 0: return ropes.size();
            case 1: return order.size();
            case 2: return (int) ropes.stream().filter(r -> r.forces != null && !r.isLocked).count();
            case 3: return dayCount;
            case 4: return ropes.stream().mapToInt(r -> r.points.size()).sum();
            default: return BAD;
        }
    }
}
