/** Promise 18: counts. */
public final class Promise18CountTest {
    public static void main(String[] args) {
        Checks checks = new Checks("Promise 18: count");
        counts(checks);
        fullOnes(checks);
        anotherNumber(checks);
        checks.finish();
    }

    private static void dueCounts(Checks checks, TendonLosses bridge, int... five) {
        for (int what = 0; what < five.length; what++) {
            checks.due("count(" + what + ")", bridge.count(what), five[what]);
        }
    }

    private static void counts(Checks checks) {
        checks.sentence("0 tendons, 1 locked ones, 2 pulled ones (not locked), 3 days, 4 points of all.");
        TendonLosses bridge = new TendonLosses();
        dueCounts(checks, bridge, 0, 0, 0, 0, 0);
        Bridges.addStraight(bridge);
        Bridges.addBent(bridge);
        Bridges.addStraight(bridge);
        dueCounts(checks, bridge, 3, 0, 0, 0, 8);
        bridge.pull(0, 1, 1000);
        bridge.pull(1, 1, 1000);
        bridge.pull(1, 2, 1000);
        dueCounts(checks, bridge, 3, 0, 2, 0, 8);
        bridge.lock(1);
        bridge.days(7);
        dueCounts(checks, bridge, 3, 1, 1, 7, 8);
        bridge.lock(0);
        bridge.days(1000);
        dueCounts(checks, bridge, 3, 2, 0, 1007, 8);
        bridge.cut(1);
        bridge.point(1, 4000, 0);
        dueCounts(checks, bridge, 3, 1, 0, 1007, 9);
    }

    private static void fullOnes(Checks checks) {
        TendonLosses bridge = Bridges.full();
        dueCounts(checks, bridge, 6, 4, 1, 0, 60);
        bridge.tendon(500);
        bridge.point(0, 50_000, 0);
        bridge.pull(0, 1, 1000);
        dueCounts(checks, bridge, 6, 4, 2, 0, 60);
        bridge.lock(0);
        bridge.lock(1);
        dueCounts(checks, bridge, 6, 6, 0, 0, 60);
    }

    private static void anotherNumber(Checks checks) {
        checks.sentence("BAD: another number.");
        Refusals refusals = new Refusals(checks, Bridges::mixed);
        int[] wrong = {-1, 5, 6, Bridges.LEAST_INT, Bridges.MOST_INT};
        for (int what : wrong) {
            refusals.bad("count(" + what + ")", b -> b.count(what));
        }
        int[] right = {5, 2, 1, 3, 15};
        for (int what = 0; what < right.length; what++) {
            int kind = what;
            refusals.changesNothing("count(" + what + ")", b -> b.count(kind), right[what]);
        }
    }
}
