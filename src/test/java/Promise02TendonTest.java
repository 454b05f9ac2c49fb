/** Promise 2: one more tendon. */
public final class Promise02TendonTest {
    public static void main(String[] args) {
        Checks checks = new Checks();
        TendonLosses bridge = new TendonLosses();
        int[] wrong = {49, 10_001, 0, -50, Integer.MIN_VALUE, Integer.MAX_VALUE};
        for (int area : wrong) {
            checks.due("tendon(" + area + ")", bridge.tendon(area), TendonLosses.BAD);
        }
        checks.due("count behind wrong areas", bridge.count(0), 0);
        int[] areas = {50, 10_000, 51, 9_999, 1000, 500};
        for (int i = 0; i < areas.length; i++) {
            checks.due("tendon(" + areas[i] + ")", bridge.tendon(areas[i]), i);
            checks.due("count(0)", bridge.count(0), i + 1);
        }
        checks.due("a seventh tendon", bridge.tendon(500), TendonLosses.BAD);
        checks.due("count of full", bridge.count(0), 6);
        areaIsUsed(checks);
        checks.finish();
    }

    private static void areaIsUsed(Checks checks) {
        TendonLosses bridge = new TendonLosses();
        bridge.friction(0, 0);
        Bridges.add(bridge, 1000, 0, 0, 10000, 0);
        Bridges.add(bridge, 50, 0, 0, 10000, 0);
        // 2,000,000 * 10,000 * 1,000 / (2 * area * 195,000)
        checks.due("pull of 1,000 mm2", bridge.pull(0, 1, 1_000_000), 51_282);
        checks.due("pull of 50 mm2", bridge.pull(1, 1, 1_000_000), 1_025_641);
    }
}
