/** Promise 2: one more tendon. */
public final class Promise02TendonTest {
    public static void main(String[] args) {
        Checks checks = new Checks("Promise 2: tendon");
        whichOne(checks);
        areas(checks);
        sixAtMost(checks);
        checks.finish();
    }

    private static void whichOne(Checks checks) {
        checks.sentence("One more tendon: which one.");
        TendonLosses bridge = new TendonLosses();
        for (int i = 0; i < 6; i++) {
            checks.due("tendon(500)", bridge.tendon(500), i);
            checks.due("count(0)", bridge.count(0), i + 1);
            checks.due("its first point", bridge.point(i, 0, 0), 1);
        }
        TendonLosses refused = new TendonLosses();
        refused.tendon(49);
        checks.due("a number is not used up by a refused call", refused.tendon(50), 0);
    }

    private static void areas(Checks checks) {
        checks.sentence("BAD: area is not 50 .. 10,000");
        TendonLosses bridge = new TendonLosses();
        int[] right = {50, 10_000, 51, 9_999};
        for (int i = 0; i < right.length; i++) {
            checks.due("tendon(" + right[i] + ")", bridge.tendon(right[i]), i);
        }
        Refusals refusals = new Refusals(checks, Bridges::mixed);
        // 65,586 and its like would be 50 if only a part of the number were looked at.
        int[] wrong = {49, 10_001, 0, -1, -50, 65_586, -65_486, Bridges.LEAST_INT, Bridges.MOST_INT,
            Bridges.LEAST_INT + 50};
        for (int area : wrong) {
            refusals.bad("tendon(" + area + ")", b -> b.tendon(area));
        }
    }

    private static void sixAtMost(Checks checks) {
        checks.sentence("there are 6.");
        Refusals refusals = new Refusals(checks, Bridges::full);
        int[] areas = {50, 500, 10_000, 49};
        for (int area : areas) {
            refusals.bad("a seventh, tendon(" + area + ")", b -> b.tendon(area));
        }
        TendonLosses bridge = Bridges.full();
        bridge.cut(5);
        checks.due("a seventh behind cut", bridge.tendon(500), TendonLosses.BAD);
        checks.due("count(0)", bridge.count(0), 6);
    }
}
