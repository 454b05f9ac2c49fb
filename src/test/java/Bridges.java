/** Tendons that several tests use, with numbers that are easy to reckon by hand. */
final class Bridges {
    static final int NONE = -2_000_000_000;
    static final int LEAST_INT = Integer.MIN_VALUE;
    static final int MOST_INT = Integer.MAX_VALUE;

    /** Numbers of tendons that neither mixed() nor a bridge with fewer ones has. */
    static final int[] NO_TENDONS = {5, 6, -1, LEAST_INT, MOST_INT};

    /** Numbers that are no point of a tendon of ten points or fewer. */
    static final int[] NO_POINTS = {10, -1, LEAST_INT, MOST_INT};

    private Bridges() {
    }

    /** Adds a tendon with points x, y, x, y, ..: its number. */
    static int add(TendonLosses bridge, int area, int... places) {
        int tendon = bridge.tendon(area);
        for (int i = 0; i + 1 < places.length; i += 2) {
            bridge.point(tendon, places[i], places[i + 1]);
        }
        return tendon;
    }

    /** One straight piece of 10,000 mm and 1,000 mm2: 39 newtons of both ends are a micrometre. */
    static int addStraight(TendonLosses bridge) {
        return add(bridge, 1000, 0, 0, 10000, 0);
    }

    /** Slopes 0, 100, - 100: turns 100 and 200; lengths 1,000, 1,004, 1,004; area 1,000. */
    static int addBent(TendonLosses bridge) {
        return add(bridge, 1000, 0, 0, 1000, 0, 2000, 100, 3000, 0);
    }

    /** A bridge without friction, slip and any other loss, and with one straight tendon. */
    static TendonLosses plain() {
        TendonLosses bridge = new TendonLosses();
        bridge.friction(0, 0);
        bridge.losses(0, 0, 0);
        addStraight(bridge);
        return bridge;
    }

    /**
     * In the midst of its life: tendon 0 is free, 1 is pulled, 3 and then 2 have been locked, 4 has
     * one point, and 5 is not there. No number is the one that holds at first.
     */
    static TendonLosses mixed() {
        TendonLosses bridge = new TendonLosses();
        addBent(bridge);
        addBent(bridge);
        addBent(bridge);
        addStraight(bridge);
        add(bridge, 500, 0, 0);
        bridge.friction(70, 150);
        bridge.losses(30, 20, 500);
        bridge.pull(3, 1, 1_000_000);
        bridge.lock(3);
        bridge.pull(2, 3, 900_000);
        bridge.lock(2);
        bridge.days(3);
        bridge.pull(1, 3, 800_000);
        return bridge;
    }

    /** Six tendons of ten points: 0 is free, 1 is pulled, 2 to 5 are locked in that order. */
    static TendonLosses full() {
        TendonLosses bridge = new TendonLosses();
        bridge.losses(30, 20, 500);
        for (int tendon = 0; tendon < 6; tendon++) {
            bridge.tendon(500);
            for (int p = 0; p < 10; p++) {
                bridge.point(tendon, 1000 * p, 50 * (p % 2));
            }
        }
        for (int tendon = 1; tendon < 6; tendon++) {
            bridge.pull(tendon, 1, 1_000_000);
        }
        for (int tendon = 2; tendon < 6; tendon++) {
            bridge.lock(tendon);
        }
        return bridge;
    }

    static void dueForces(Checks checks, TendonLosses bridge, int tendon, int... forces) {
        for (int p = 0; p < forces.length; p++) {
            checks.due("force(" + tendon + ", " + p + ")", bridge.force(tendon, p), forces[p]);
        }
        checks.due("force behind the last point", bridge.force(tendon, forces.length), TendonLosses.BAD);
    }
}
