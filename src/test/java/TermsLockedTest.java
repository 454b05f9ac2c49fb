/** 'Terms', fourth part: what locked tendons lose. */
public final class TermsLockedTest {
    public static void main(String[] args) {
        Checks checks = new Checks("Terms");
        behindSlip(checks);
        eachOneLockedBefore(checks);
        meanIsCutOff(checks);
        rangeOfShare(checks);
        notMoreThanItHas(checks);
        onEachDay(checks);
        rangeOfFade(checks);
        cutOffEachDay(checks);
        checks.finish();
    }

    /** So many straight tendons without friction. */
    private static TendonLosses straightOnes(int many) {
        TendonLosses bridge = new TendonLosses();
        bridge.friction(0, 0);
        for (int i = 0; i < many; i++) {
            Bridges.addStraight(bridge);
        }
        return bridge;
    }

    private static void pullAndLock(TendonLosses bridge, int tendon, int force) {
        bridge.pull(tendon, 1, force);
        bridge.lock(tendon);
    }

    private static void behindSlip(Checks checks) {
        checks.sentence("LOCKED, forces at points are those behind slip.");
        TendonLosses bridge = straightOnes(1);
        bridge.losses(1000, 0, 0);
        bridge.pull(0, 1, 1_000_000);
        Bridges.dueForces(checks, bridge, 0, 1_000_000, 1_000_000);
        bridge.lock(0);
        Bridges.dueForces(checks, bridge, 0, 980_500, 980_500);
    }

    private static void eachOneLockedBefore(Checks checks) {
        checks.sentence("When a tendon is locked, each one locked before loses of the force at each of its points"
                + " the MEAN of this one's");
        TendonLosses bridge = straightOnes(4);
        bridge.losses(0, 100, 0);
        bridge.friction(1000, 0);
        bridge.pull(3, 1, 1000);
        pullAndLock(bridge, 0, 1000);
        Bridges.dueForces(checks, bridge, 0, 1000, 990);
        bridge.pull(1, 1, 1015);
        Bridges.dueForces(checks, bridge, 0, 1000, 990);
        bridge.lock(1);
        // The mean of 1,015 and 1,005 is 1,010; a tenth of it goes, but not from itself or from pulled ones.
        Bridges.dueForces(checks, bridge, 0, 899, 889);
        Bridges.dueForces(checks, bridge, 1, 1015, 1005);
        Bridges.dueForces(checks, bridge, 3, 1000, 990);
        pullAndLock(bridge, 2, 1015);
        Bridges.dueForces(checks, bridge, 0, 798, 788);
        Bridges.dueForces(checks, bridge, 1, 914, 904);
        // The mean is that of the forces behind slip: 480,500 of 500,000.
        TendonLosses slipping = straightOnes(2);
        slipping.losses(1000, 100, 0);
        pullAndLock(slipping, 0, 1_000_000);
        pullAndLock(slipping, 1, 500_000);
        Bridges.dueForces(checks, slipping, 0, 932_450, 932_450);
    }

    private static void meanIsCutOff(Checks checks) {
        checks.sentence("(the sum of its points' forces by their number, cut off)");
        TendonLosses bridge = straightOnes(2);
        bridge.losses(0, 99, 0);
        pullAndLock(bridge, 0, 1000);
        bridge.friction(100, 0);
        // 1,011 and 1,010: the mean is 1,010, not 1,010.5; times 99 that is 99.99 thousands, not 100.04.
        pullAndLock(bridge, 1, 1011);
        Bridges.dueForces(checks, bridge, 1, 1011, 1010);
        Bridges.dueForces(checks, bridge, 0, 901, 901);
        TendonLosses ten = Bridges.full();
        ten.friction(0, 0);
        ten.losses(0, 100, 0);
        int before = ten.force(5, 9);
        pullAndLock(ten, 0, 1000);
        checks.due("the mean of ten points", before - ten.force(5, 9), 100);
    }

    private static void rangeOfShare(Checks checks) {
        checks.sentence("times SHARE (0 .. 100 thousandths; 10 at first) by 1,000, cut off");
        TendonLosses bridge = straightOnes(2);
        pullAndLock(bridge, 0, 10_000);
        pullAndLock(bridge, 1, 99);
        Bridges.dueForces(checks, bridge, 0, 10_000, 10_000);
        lockAgain(bridge, 1, 100);
        Bridges.dueForces(checks, bridge, 0, 9999, 9999);
        lockAgain(bridge, 1, 1999);
        Bridges.dueForces(checks, bridge, 0, 9980, 9980);
        checks.due("losses(0, 101, 0)", bridge.losses(0, 101, 0), false);
        checks.due("losses(0, -1, 0)", bridge.losses(0, -1, 0), false);
        lockAgain(bridge, 1, 1000);
        Bridges.dueForces(checks, bridge, 0, 9970, 9970);
        checks.due("losses(0, 0, 0)", bridge.losses(0, 0, 0), true);
        lockAgain(bridge, 1, 10_000_000);
        Bridges.dueForces(checks, bridge, 0, 9970, 9970);
        checks.due("losses(0, 100, 0)", bridge.losses(0, 100, 0), true);
        lockAgain(bridge, 1, 1009);
        Bridges.dueForces(checks, bridge, 0, 9870, 9870);
    }

    private static void lockAgain(TendonLosses bridge, int tendon, int force) {
        bridge.cut(tendon);
        pullAndLock(bridge, tendon, force);
    }

    private static void notMoreThanItHas(Checks checks) {
        checks.sentence(", but not more than it has.");
        int[][] leaves = {{1010, 0}, {1000, 0}, {990, 1}, {10_000_000, 0}};
        for (int[] pair : leaves) {
            TendonLosses bridge = straightOnes(2);
            bridge.losses(0, 100, 0);
            pullAndLock(bridge, 0, 100);
            pullAndLock(bridge, 1, pair[0]);
            Bridges.dueForces(checks, bridge, 0, pair[1], pair[1]);
            checks.due("it is locked still", bridge.locked(0), 0);
        }
        // At one point it has enough, at the other one it has not.
        TendonLosses bridge = straightOnes(2);
        bridge.losses(0, 100, 0);
        bridge.friction(1000, 0);
        pullAndLock(bridge, 0, 1000);
        bridge.friction(0, 0);
        pullAndLock(bridge, 1, 9950);
        Bridges.dueForces(checks, bridge, 0, 5, 0);
    }

    private static void onEachDay(Checks checks) {
        checks.sentence("On each of so many DAYS that go by, every locked one loses at each point its force times");
        TendonLosses bridge = straightOnes(4);
        bridge.friction(1000, 0);
        bridge.losses(0, 0, 1000);
        bridge.pull(2, 1, 1_000_500);
        pullAndLock(bridge, 0, 1_000_500);
        pullAndLock(bridge, 1, 2_000_000);
        bridge.days(1);
        Bridges.dueForces(checks, bridge, 0, 999_500, 989_505);
        Bridges.dueForces(checks, bridge, 1, 1_998_000, 1_978_020);
        // Each day is cut off by itself: 999 and 989, then 998 and 988 go.
        bridge.days(2);
        Bridges.dueForces(checks, bridge, 0, 997_503, 987_528);
        Bridges.dueForces(checks, bridge, 2, 1_000_500, 990_495);
        checks.due("one that is neither", bridge.force(3, 0), TendonLosses.BAD);
        bridge.days(0);
        bridge.days(1001);
        Bridges.dueForces(checks, bridge, 0, 997_503, 987_528);
    }

    private static void rangeOfFade(Checks checks) {
        checks.sentence("FADE (0 .. 1,000; 3 at first)");
        TendonLosses bridge = straightOnes(1);
        pullAndLock(bridge, 0, 1_000_000);
        bridge.days(1);
        Bridges.dueForces(checks, bridge, 0, 999_997, 999_997);
        checks.due("losses(0, 0, 1001)", bridge.losses(0, 0, 1001), false);
        checks.due("losses(0, 0, -1)", bridge.losses(0, 0, -1), false);
        lockAgain(bridge, 0, 1_000_000);
        bridge.days(1);
        Bridges.dueForces(checks, bridge, 0, 999_997, 999_997);
        checks.due("losses(0, 0, 1000)", bridge.losses(0, 0, 1000), true);
        lockAgain(bridge, 0, 10_000_000);
        bridge.days(1);
        Bridges.dueForces(checks, bridge, 0, 9_990_000, 9_990_000);
        checks.due("losses(0, 0, 0)", bridge.losses(0, 0, 0), true);
        bridge.days(1000);
        Bridges.dueForces(checks, bridge, 0, 9_990_000, 9_990_000);
    }

    private static void cutOffEachDay(Checks checks) {
        checks.sentence("by 1,000,000, cut off.");
        TendonLosses bridge = straightOnes(1);
        // 333,333 * 3 is 999,999, one too little.
        pullAndLock(bridge, 0, 333_334);
        bridge.days(1);
        Bridges.dueForces(checks, bridge, 0, 333_333, 333_333);
        bridge.days(1000);
        Bridges.dueForces(checks, bridge, 0, 333_333, 333_333);
        // From 999 on a thousandth is cut off to nothing.
        bridge.losses(0, 0, 1000);
        lockAgain(bridge, 0, 1002);
        bridge.days(1000);
        Bridges.dueForces(checks, bridge, 0, 999, 999);
    }
}
