/** 'Terms', third part: slip at the anchors, walked back. */
public final class TermsSlipTest {
    public static void main(String[] args) {
        Checks checks = new Checks("Terms");
        rangeOfSlip(checks);
        forAllAnchors(checks);
        onlyPulledEnds(checks);
        upOverAPiece(checks);
        upAtATurn(checks);
        upOverBoth(checks);
        asFarAsTheyAreBelow(checks);
        cutOffForEachPiece(checks);
        greatestOne(checks);
        zeroIfThereIsNone(checks);
        beginningFirst(checks);
        checks.finish();
    }

    /** Pulls and locks tendon 0 anew with that slip: what lock answers and the forces that are left. */
    private static void dueLock(Checks checks, TendonLosses bridge, int from, int pull, int slip, int shorter,
            int... forces) {
        bridge.cut(0);
        bridge.losses(slip, 0, 0);
        bridge.pull(0, from, pull);
        dueLockNow(checks, bridge, shorter, forces);
    }

    private static void dueLockNow(Checks checks, TendonLosses bridge, int shorter, int... forces) {
        checks.due("lock", bridge.lock(0), shorter);
        Bridges.dueForces(checks, bridge, 0, forces);
    }

    /** Pulled without friction, so that all points have the pull, and locked with it. */
    private static void dueLockWith(Checks checks, TendonLosses bridge, int[] friction, int from, int pull,
            int shorter, int... forces) {
        bridge.cut(0);
        bridge.friction(0, 0);
        bridge.pull(0, from, pull);
        bridge.friction(friction[0], friction[1]);
        dueLockNow(checks, bridge, shorter, forces);
    }

    private static void rangeOfSlip(Checks checks) {
        checks.sentence("SLIP (micrometres, 0 .. 20,000");
        TendonLosses bridge = Bridges.plain();
        dueLock(checks, bridge, 1, 1_000_000, 0, 0, 1_000_000, 1_000_000);
        // 39 newtons of both ends are a micrometre.
        dueLock(checks, bridge, 1, 1_000_000, 1, 1, 999_980, 999_980);
        dueLock(checks, bridge, 1, 1_000_000, 20_000, 20_000, 610_000, 610_000);
        checks.due("losses(20001, 0, 0)", bridge.losses(20_001, 0, 0), false);
        checks.due("losses(-1, 0, 0)", bridge.losses(-1, 0, 0), false);
        bridge.cut(0);
        bridge.pull(0, 1, 1_000_000);
        dueLockNow(checks, bridge, 20_000, 610_000, 610_000);
    }

    private static void forAllAnchors(Checks checks) {
        checks.sentence(", for all anchors; 0 at first).");
        TendonLosses first = new TendonLosses();
        Bridges.addBent(first);
        first.pull(0, 3, 1_000_000);
        dueLockNow(checks, first, 0, 1_000_000, 979_996, 959_996, 1_000_000);
        TendonLosses bridge = Bridges.plain();
        int other = Bridges.addStraight(bridge);
        dueLock(checks, bridge, 3, 1_000_000, 20_000, 40_000, 220_000, 220_000);
        bridge.pull(other, 2, 1_000_000);
        checks.due("lock of another tendon", bridge.lock(other), 20_000);
        Bridges.dueForces(checks, bridge, other, 610_000, 610_000);
    }

    private static void onlyPulledEnds(Checks checks) {
        checks.sentence("For an end that is pulled: with X there in the stead of the pull, forces go up from it,"
                + " point by point");
        TendonLosses bridge = new TendonLosses();
        bridge.friction(1000, 0);
        Bridges.add(bridge, 1000, 0, 0, 10_000, 0, 20_000, 0, 30_000, 0);
        // 100 micrometres are 3,900 newtons of the first piece; 996,100 goes up above 990,000.
        dueLock(checks, bridge, 1, 1_000_000, 100, 100, 996_100, 990_000, 980_100, 970_299);
        dueLock(checks, bridge, 2, 1_000_000, 100, 100, 970_299, 980_100, 990_000, 996_100);
        dueLock(checks, bridge, 3, 1_000_000, 100, 200, 996_100, 990_000, 990_000, 996_100);
    }

    private static void upOverAPiece(Checks checks) {
        checks.sentence(": over a piece by F times ROUGH times its length by 1,000,000,000, cut off");
        TendonLosses bridge = new TendonLosses();
        Bridges.add(bridge, 50, 0, 0, 111, 0);
        bridge.losses(1, 0, 0);
        int[] friction = {27, 0};
        // A micrometre is 176 newtons; 333,667 * 27 * 111 is one too little to go up by a newton.
        dueLockWith(checks, bridge, friction, 1, 333_755, 1, 333_667, 333_667);
        dueLockWith(checks, bridge, friction, 1, 333_756, 1, 333_667, 333_667);
        dueLockWith(checks, bridge, friction, 1, 333_757, 1, 333_668, 333_669);
        dueLockWith(checks, bridge, friction, 2, 333_757, 1, 333_669, 333_668);
    }

    private static void upAtATurn(Checks checks) {
        checks.sentence(", then by F times MU times the turn by 1,000,000, cut off");
        TendonLosses bridge = new TendonLosses();
        Bridges.add(bridge, 50, 0, 0, 1000, 0, 2000, 37);
        bridge.losses(2, 0, 0);
        int[] friction = {0, 27};
        // 1,001 * 27 * 37 is one too little to go up by a newton.
        dueLockWith(checks, bridge, friction, 1, 1011, 2, 1001, 1001, 1001);
        dueLockWith(checks, bridge, friction, 1, 1012, 2, 1001, 1001, 1001);
        dueLockWith(checks, bridge, friction, 1, 1013, 2, 1002, 1003, 1003);
        dueLockWith(checks, bridge, friction, 2, 1013, 2, 1003, 1003, 1002);
    }

    /** At the turn it is the force as it is behind the piece: 900,001 * 1.01 * 1.05, then * 1.010049. */
    private static void upOverBoth(Checks checks) {
        TendonLosses bridge = new TendonLosses();
        Bridges.add(bridge, 1000, 0, 0, 10_000, 0, 20_000, 1000);
        int[] friction = {1000, 500};
        bridge.losses(1000, 0, 0);
        dueLockWith(checks, bridge, friction, 1, 1_000_000, 1000, 961_000, 1_000_000, 1_000_000);
        bridge.losses(5832, 0, 0);
        dueLockWith(checks, bridge, friction, 1, 1_000_000, 5832, 900_001, 954_451, 964_042);
        dueLockWith(checks, bridge, friction, 2, 1_000_000, 5833, 964_095, 954_550, 900_052);
        bridge.losses(20_000, 0, 0);
        dueLockWith(checks, bridge, friction, 1, 1_000_000, 20_001, 768_517, 815_012, 823_202);
    }

    private static void asFarAsTheyAreBelow(Checks checks) {
        checks.sentence(", as far as they are below those of before slipping; from the first point on where they"
                + " are not, all is as before.");
        TendonLosses bridge = new TendonLosses();
        Bridges.add(bridge, 50, 0, 0, 10_000, 0, 20_000, 0);
        // Pulled with friction, so that the point between has 990,000 and both ends 1,000,000, and locked
        // without. 10,000 newtons less at an anchor are 5,128 micrometres: equal there, it goes no further.
        dueDip(checks, bridge, 5128, 10_256, 990_000, 990_000, 990_000);
        // One micrometre more, and it is below there and goes on to the other end.
        dueDip(checks, bridge, 5129, 15_388, 987_498, 987_498, 987_498);
        TendonLosses steep = new TendonLosses();
        Bridges.add(steep, 10_000, 0, -3000, 100, 3000, 200, -3000);
        steep.friction(0, 500);
        // No force can be below the 0 between: 1,000,000 * 6,000 * 1,000 / 3,900,000,000 at each side.
        dueLock(checks, steep, 3, 1_000_000, 20_000, 3076, 0, 0, 0);
        dueLock(checks, steep, 3, 1_000_000, 10, 20, 993_500, 0, 993_500);
    }

    private static void dueDip(Checks checks, TendonLosses bridge, int slip, int shorter, int... forces) {
        bridge.cut(0);
        bridge.losses(slip, 0, 0);
        bridge.friction(1000, 0);
        bridge.pull(0, 3, 1_000_000);
        Bridges.dueForces(checks, bridge, 0, 1_000_000, 990_000, 1_000_000);
        bridge.friction(0, 0);
        dueLockNow(checks, bridge, shorter, forces);
    }

    private static void cutOffForEachPiece(Checks checks) {
        checks.sentence("The SHORTENING is the sum, over pieces, of how much less both ends of it have together,"
                + " times the length, times 1,000, by twice the area times 195,000, cut off for each piece.");
        TendonLosses bridge = new TendonLosses();
        bridge.friction(0, 0);
        Bridges.add(bridge, 1000, 0, 0, 1000, 0, 2000, 0, 3000, 0, 4000, 0);
        // 195 newtons at each end are a micrometre for each of four pieces; 194 are none for any.
        dueLock(checks, bridge, 1, 10_000, 1, 4, 9805, 9805, 9805, 9805, 9805);
        dueLock(checks, bridge, 1, 10_000, 4, 4, 9805, 9805, 9805, 9805, 9805);
        dueLock(checks, bridge, 1, 10_000, 5, 8, 9610, 9610, 9610, 9610, 9610);
        dueLock(checks, bridge, 1, 10_000, 8, 8, 9610, 9610, 9610, 9610, 9610);
        dueLock(checks, bridge, 1, 10_000, 9, 12, 9415, 9415, 9415, 9415, 9415);
    }

    private static void greatestOne(Checks checks) {
        checks.sentence("X is the greatest one of 0 .. the pull for which the sum is not below the slip");
        TendonLosses bridge = Bridges.plain();
        // 2 * 20 newtons are a micrometre and a bit; 2 * 39 are two, just enough.
        dueLock(checks, bridge, 1, 1000, 1, 1, 980, 980);
        dueLock(checks, bridge, 1, 1000, 2, 2, 961, 961);
        dueLock(checks, bridge, 1, 1000, 0, 0, 1000, 1000);
        dueLock(checks, bridge, 1, 40, 2, 2, 1, 1);
        dueLock(checks, bridge, 1, 39, 2, 2, 0, 0);
        // The second anchor has less than the pull by then: without slip it is left so.
        bridge.friction(1000, 0);
        dueLock(checks, bridge, 3, 1000, 0, 0, 1000, 1000);
        bridge.friction(0, 0);
        dueLock(checks, bridge, 3, 1000, 2, 4, 922, 922);
    }

    private static void zeroIfThereIsNone(Checks checks) {
        checks.sentence("; 0 if there is none.");
        TendonLosses bridge = Bridges.plain();
        dueLock(checks, bridge, 1, 38, 2, 1, 0, 0);
        dueLock(checks, bridge, 1, 1, 20_000, 0, 0, 0);
        dueLock(checks, bridge, 3, 10_000, 20_000, 512, 0, 0);
        // The first anchor takes all but a newton, so that there is too little for the second one.
        dueLock(checks, bridge, 3, 40, 2, 2, 0, 0);
        // With friction the force still goes up from 0 by nothing.
        bridge.friction(1000, 500);
        dueLock(checks, bridge, 2, 1000, 20_000, 51, 0, 0);
    }

    private static void beginningFirst(Checks checks) {
        checks.sentence("(X is found for the beginning first; then, from the forces that are there then,"
                + " for the end.)");
        TendonLosses bridge = Bridges.plain();
        // The second slip starts from what the first one left: 980,500 at both points.
        dueLock(checks, bridge, 3, 1_000_000, 1000, 2000, 961_000, 961_000);
        // First 975,622 and 985,378, then from the end: had it been first, both would be the other way round.
        bridge.friction(1000, 0);
        dueLock(checks, bridge, 3, 1_000_000, 1000, 2000, 965_781, 956_219);
    }
}
