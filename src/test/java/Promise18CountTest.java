/** Promise 18: counts. */
public final class Promise18CountTest {
    public static void main(String[] args) {
        Checks checks = new Checks();
        TendonLosses bridge = new TendonLosses();
        dueCounts(checks, bridge, 0, 0, 0, 0, 0);
        Bridges.addStraight(bridge);
        Bridges.addBent(bridge);
        Bridges.addStraight(bridge);
        dueCounts(checks, bridge, 3, 0, 0, 0, 8);
        bridge.pull(0, 1, 1000);
        bridge.pull(1, 1, 1000);
        bridge.pull(1, 2, 1000);
        dueCounts(checks, bridge, 3, 0, 2, 0, 8);
        bridge.lock(1);
        bridge.days(7);
        dueCounts(checks, bridge, 3, 1, 1, 7, 8);
        bridge.lock(0);
        bridge.days(1000);
        dueCounts(checks, bridge, 3, 2, 0, 1007, 8);
        bridge.cut(1);
        bridge.point(1, 4000, 0);
        dueCounts(checks, bridge, 3, 1, 0, 1007, 9);
        int[] wrong = {-1, 5, Integer.MIN_VALUE, Integer.MAX_VALUE};
        for (int what : wrong) {
            checks.due("count(" + what + ")", bridge.count(what), TendonLosses.BAD);
        }
        checks.finish();
    }

    private static void dueCounts(Checks checks, TendonLosses bridge, int... five) {
        for (int what = 0; what < five.length; what++) {
            checks.due("count(" + what + ")", bridge.count(what), five[what]);
        }
    }
}
