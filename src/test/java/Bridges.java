/** Tendons that several tests use, with numbers that are easy to reckon by hand. */
final class Bridges {
    static final int NONE = -2_000_000_000;
    static final int[] ODD_NUMBERS = {-1, Integer.MIN_VALUE, Integer.MAX_VALUE, 6, 1000};

    private Bridges() {
    }

    /** Adds a tendon with points x, y, x, y, ..: its number. */
    static int add(TendonLosses bridge, int area, int... places) {
        int tendon = bridge.tendon(area);
        for (int i = 0; i + 1 < places.length; i += 2) {
            bridge.point(tendon, places[i], places[i + 1]);
        }
        return tendon;
    }

    /** One straight piece of 10,000 mm and 1,000 mm2: with ROUGH 1,000 it takes a hundredth. */
    static int addStraight(TendonLosses bridge) {
        return add(bridge, 1000, 0, 0, 10000, 0);
    }

    /** Slopes 0, 100, - 100: turns 100 and 200; lengths 1,000, 1,004, 1,004; area 1,000. */
    static int addBent(TendonLosses bridge) {
        return add(bridge, 1000, 0, 0, 1000, 0, 2000, 100, 3000, 0);
    }

    static void dueForces(Checks checks, TendonLosses bridge, int tendon, int... forces) {
        for (int p = 0; p < forces.length; p++) {
            checks.due("force(" + tendon + ", " + p + ")", bridge.force(tendon, p), forces[p]);
        }
        checks.due("force behind the last point", bridge.force(tendon, forces.length), TendonLosses.BAD);
    }
}
