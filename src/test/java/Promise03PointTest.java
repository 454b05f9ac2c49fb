/** Promise 3: one more point. */
public final class Promise03PointTest {
    public static void main(String[] args) {
        Checks checks = new Checks();
        wrongTendons(checks);
        places(checks);
        atMostTen(checks);
        notWhilePulledOrLocked(checks);
        checks.finish();
    }

    private static void wrongTendons(Checks checks) {
        TendonLosses bridge = new TendonLosses();
        checks.due("point without tendons", bridge.point(0, 0, 0), TendonLosses.BAD);
        bridge.tendon(500);
        checks.due("point of the next tendon", bridge.point(1, 0, 0), TendonLosses.BAD);
        for (int tendon : Bridges.ODD_NUMBERS) {
            checks.due("point of tendon " + tendon, bridge.point(tendon, 0, 0), TendonLosses.BAD);
        }
    }

    private static void places(Checks checks) {
        TendonLosses bridge = new TendonLosses();
        bridge.tendon(500);
        checks.due("x - 1", bridge.point(0, -1, 0), TendonLosses.BAD);
        checks.due("x 100,001", bridge.point(0, 100_001, 0), TendonLosses.BAD);
        checks.due("y 3,001", bridge.point(0, 0, 3001), TendonLosses.BAD);
        checks.due("y - 3,001", bridge.point(0, 0, -3001), TendonLosses.BAD);
        checks.due("least y", bridge.point(0, 0, Integer.MIN_VALUE), TendonLosses.BAD);
        checks.due("the first", bridge.point(0, 0, 3000), 1);
        checks.due("x 99 behind", bridge.point(0, 99, 0), TendonLosses.BAD);
        checks.due("x 100 behind", bridge.point(0, 100, -3000), 2);
        checks.due("the same x", bridge.point(0, 100, 0), TendonLosses.BAD);
        checks.due("x before", bridge.point(0, 0, 0), TendonLosses.BAD);
        checks.due("greatest int", bridge.point(0, Integer.MAX_VALUE, 0), TendonLosses.BAD);
        checks.due("x 100,000", bridge.point(0, 100_000, 0), 3);
        checks.due("x 100,100", bridge.point(0, 100_100, 0), TendonLosses.BAD);
        checks.due("count(4)", bridge.count(4), 3);
        bridge.tendon(500);
        checks.due("first at 100,000", bridge.point(1, 100_000, 0), 1);
    }

    private static void atMostTen(Checks checks) {
        TendonLosses bridge = new TendonLosses();
        bridge.tendon(500);
        for (int i = 1; i <= 10; i++) {
            checks.due("point " + i, bridge.point(0, i * 100, 0), i);
        }
        checks.due("an eleventh point", bridge.point(0, 5000, 0), TendonLosses.BAD);
        checks.due("count(4)", bridge.count(4), 10);
    }

    private static void notWhilePulledOrLocked(Checks checks) {
        TendonLosses bridge = new TendonLosses();
        Bridges.addStraight(bridge);
        bridge.pull(0, 1, 1000);
        checks.due("point while pulled", bridge.point(0, 20000, 0), TendonLosses.BAD);
        bridge.lock(0);
        checks.due("point while locked", bridge.point(0, 20000, 0), TendonLosses.BAD);
        bridge.cut(0);
        checks.due("point behind cut", bridge.point(0, 20000, 0), 3);
        bridge.pull(0, 1, 1000);
        bridge.cut(0);
        checks.due("point behind letting go", bridge.point(0, 30000, 0), 4);
    }
}
