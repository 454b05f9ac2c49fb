/** Promise 7: locking, with slip and with what the earlier ones lose. */
public final class Promise07LockTest {
    public static void main(String[] args) {
        Checks checks = new Checks();
        wrongOnes(checks);
        slipThatEndsOnTheWay(checks);
        slipFromTheEnd(checks);
        slipAtBothEnds(checks);
        slipThatTakesAll(checks);
        slipStopsWhereNothingIsLeft(checks);
        slipStopsWhereForcesAreEqual(checks);
        shorterIsTheDifferenceOfLonger(checks);
        earlierOnesLose(checks);
        checks.finish();
    }

    private static void wrongOnes(Checks checks) {
        TendonLosses bridge = new TendonLosses();
        checks.due("lock without tendons", bridge.lock(0), TendonLosses.BAD);
        int straight = Bridges.addStraight(bridge);
        checks.due("lock of one not pulled", bridge.lock(straight), TendonLosses.BAD);
        for (int tendon : Bridges.ODD_NUMBERS) {
            checks.due("lock(" + tendon + ")", bridge.lock(tendon), TendonLosses.BAD);
        }
        bridge.pull(straight, 1, 1000);
        checks.due("lock", bridge.lock(straight), 0);
        checks.due("lock of a locked one", bridge.lock(straight), TendonLosses.BAD);
        checks.due("locked ones", bridge.count(1), 1);
        checks.due("pulled ones", bridge.count(2), 0);
        bridge.cut(straight);
        checks.due("lock behind cut", bridge.lock(straight), TendonLosses.BAD);
    }

    private static void slipThatEndsOnTheWay(Checks checks) {
        TendonLosses bridge = new TendonLosses();
        bridge.friction(1000, 0);
        bridge.losses(100, 0, 0);
        int row = Bridges.add(bridge, 1000, 0, 0, 10_000, 0, 20_000, 0, 30_000, 0);
        bridge.pull(row, 1, 1_000_000);
        Bridges.dueForces(checks, bridge, row, 1_000_000, 990_000, 980_100, 970_299);
        // 100 micrometres are 3,900 newtons of the first piece; 996,100 goes up above 990,000.
        checks.due("lock", bridge.lock(row), 100);
        Bridges.dueForces(checks, bridge, row, 996_100, 990_000, 980_100, 970_299);
    }

    private static void slipFromTheEnd(Checks checks) {
        TendonLosses bridge = new TendonLosses();
        bridge.friction(1000, 0);
        bridge.losses(100, 0, 0);
        int row = Bridges.add(bridge, 1000, 0, 0, 10_000, 0, 20_000, 0);
        bridge.pull(row, 2, 1_000_000);
        checks.due("lock", bridge.lock(row), 100);
        Bridges.dueForces(checks, bridge, row, 980_100, 990_000, 996_100);
    }

    private static void slipAtBothEnds(Checks checks) {
        TendonLosses bridge = new TendonLosses();
        bridge.friction(0, 0);
        bridge.losses(1000, 0, 0);
        int straight = Bridges.addStraight(bridge);
        bridge.pull(straight, 3, 1_000_000);
        // The second slip starts from what the first one left: 980,500 at both points.
        checks.due("lock", bridge.lock(straight), 2000);
        Bridges.dueForces(checks, bridge, straight, 961_000, 961_000);
    }

    private static void slipThatTakesAll(Checks checks) {
        TendonLosses bridge = new TendonLosses();
        bridge.losses(20_000, 10, 3);
        int straight = Bridges.addStraight(bridge);
        int all = bridge.pull(straight, 3, 10_000);
        checks.due("lock", bridge.lock(straight), all);
        Bridges.dueForces(checks, bridge, straight, 0, 0);
    }

    private static void slipStopsWhereNothingIsLeft(Checks checks) {
        TendonLosses bridge = new TendonLosses();
        bridge.friction(0, 500);
        bridge.losses(20_000, 0, 0);
        int steep = Bridges.add(bridge, 10_000, 0, -3000, 100, 3000, 200, -3000);
        bridge.pull(steep, 3, 1_000_000);
        Bridges.dueForces(checks, bridge, steep, 1_000_000, 0, 1_000_000);
        // 1,000,000 * 6,000 * 1,000 / 3,900,000,000 at each side, less than the slip.
        checks.due("lock", bridge.lock(steep), 3076);
        Bridges.dueForces(checks, bridge, steep, 0, 0, 0);
        bridge.cut(steep);
        bridge.losses(10, 0, 0);
        bridge.pull(steep, 3, 1_000_000);
        bridge.lock(steep);
        Bridges.dueForces(checks, bridge, steep, 993_500, 0, 993_500);
    }

    private static void slipStopsWhereForcesAreEqual(Checks checks) {
        TendonLosses bridge = new TendonLosses();
        bridge.friction(1000, 0);
        int row = Bridges.add(bridge, 50, 0, 0, 10_000, 0, 20_000, 0);
        bridge.pull(row, 3, 1_000_000);
        Bridges.dueForces(checks, bridge, row, 1_000_000, 990_000, 1_000_000);
        bridge.friction(0, 0);
        // 10,000 newtons less at the anchor are 5,128.2 micrometres; behind the point between nothing
        // changes, though the forces go up again there.
        bridge.losses(5128, 0, 0);
        checks.due("lock", bridge.lock(row), 10_256);
        Bridges.dueForces(checks, bridge, row, 990_000, 990_000, 990_000);
    }

    /** Pieces are cut off one by one, so that sums of differences would not be the difference. */
    private static void shorterIsTheDifferenceOfLonger(Checks checks) {
        for (int slip = 0; slip <= 3000; slip += 250) {
            for (int from = 1; from <= 3; from++) {
                TendonLosses bridge = new TendonLosses();
                bridge.losses(slip, 10, 3);
                int wave = Bridges.add(bridge, 730, 0, 0, 3100, 90, 5200, -70, 9300, 400, 11_000, 10,
                        17_000, -800, 19_000, 200);
                int before = bridge.pull(wave, from, 777_777);
                int shorter = bridge.lock(wave);
                checks.due("lock with slip " + slip + " from " + from, shorter,
                        before - bridge.longer(wave));
            }
        }
    }

    private static void earlierOnesLose(Checks checks) {
        TendonLosses bridge = new TendonLosses();
        bridge.friction(1000, 0);
        bridge.losses(0, 100, 3);
        int first = Bridges.addStraight(bridge);
        int second = Bridges.addStraight(bridge);
        int pulled = Bridges.addStraight(bridge);
        bridge.pull(first, 1, 1000);
        bridge.pull(pulled, 1, 1000);
        bridge.lock(first);
        Bridges.dueForces(checks, bridge, first, 1000, 990);
        bridge.pull(second, 1, 1015);
        Bridges.dueForces(checks, bridge, first, 1000, 990);
        bridge.lock(second);
        // The mean of 1,015 and 1,005 is 1,010; a tenth of it goes.
        Bridges.dueForces(checks, bridge, first, 899, 889);
        Bridges.dueForces(checks, bridge, second, 1015, 1005);
        Bridges.dueForces(checks, bridge, pulled, 1000, 990);
        bridge.pull(pulled, 1, 8995);
        bridge.lock(pulled);
        // The mean of 8,995 and 8,906 is 8,950: 895 is more than the second point has.
        Bridges.dueForces(checks, bridge, first, 4, 0);
        Bridges.dueForces(checks, bridge, second, 120, 110);
    }
}
