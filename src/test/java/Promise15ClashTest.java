/** Promise 15: ducts that come too near. */
public final class Promise15ClashTest {
    public static void main(String[] args) {
        Checks checks = new Checks();
        parallel(checks);
        crossing(checks);
        betweenWholeNumbers(checks);
        onlyWhereBothAre(checks);
        wrongOnes(checks);
        checks.finish();
    }

    private static void dueBothWays(Checks checks, TendonLosses bridge, int apart, boolean want) {
        checks.due("clash(0, 1, " + apart + ")", bridge.clash(0, 1, apart), want);
        checks.due("clash(1, 0, " + apart + ")", bridge.clash(1, 0, apart), want);
    }

    private static void parallel(Checks checks) {
        TendonLosses bridge = new TendonLosses();
        Bridges.add(bridge, 500, 0, 0, 10_000, 0);
        Bridges.add(bridge, 500, 0, 100, 10_000, 100);
        dueBothWays(checks, bridge, 0, false);
        dueBothWays(checks, bridge, 100, false);
        dueBothWays(checks, bridge, 101, true);
        dueBothWays(checks, bridge, 1000, true);
        TendonLosses same = new TendonLosses();
        Bridges.add(same, 500, 0, 0, 10_000, 0);
        Bridges.add(same, 500, 0, 0, 10_000, 0);
        dueBothWays(checks, same, 0, false);
        dueBothWays(checks, same, 1, true);
    }

    private static void crossing(Checks checks) {
        TendonLosses bridge = new TendonLosses();
        // They cross within one piece of each and are far apart at every point.
        Bridges.add(bridge, 500, 0, 0, 200, 3000);
        Bridges.add(bridge, 500, 0, 3000, 200, -3000);
        dueBothWays(checks, bridge, 0, false);
        dueBothWays(checks, bridge, 1, true);
    }

    private static void betweenWholeNumbers(Checks checks) {
        TendonLosses bridge = new TendonLosses();
        Bridges.add(bridge, 500, 0, -500, 100, 0, 200, -500);
        Bridges.add(bridge, 500, 0, 20, 300, 21);
        // At 100 it is 20 1/3.
        dueBothWays(checks, bridge, 20, false);
        dueBothWays(checks, bridge, 21, true);
        TendonLosses below = new TendonLosses();
        Bridges.add(below, 500, 0, 500, 100, 0, 200, 500);
        Bridges.add(below, 500, 0, -21, 300, -20);
        // At 100 it is - 20 2/3.
        dueBothWays(checks, below, 20, false);
        dueBothWays(checks, below, 21, true);
    }

    private static void onlyWhereBothAre(Checks checks) {
        TendonLosses apart = new TendonLosses();
        Bridges.add(apart, 500, 0, 0, 1000, 0);
        Bridges.add(apart, 500, 1001, 0, 2000, 0);
        dueBothWays(checks, apart, 1000, false);
        TendonLosses touching = new TendonLosses();
        Bridges.add(touching, 500, 0, 0, 1000, 0);
        Bridges.add(touching, 500, 1000, 30, 2000, 0);
        dueBothWays(checks, touching, 30, false);
        dueBothWays(checks, touching, 31, true);
        TendonLosses over = new TendonLosses();
        // The second one would come nearer behind the end of the first one.
        Bridges.add(over, 500, 0, 0, 1000, 0);
        Bridges.add(over, 500, 500, 1000, 1500, 0);
        dueBothWays(checks, over, 500, false);
        dueBothWays(checks, over, 501, true);
    }

    private static void wrongOnes(Checks checks) {
        TendonLosses bridge = new TendonLosses();
        checks.due("clash without tendons", bridge.clash(0, 1, 10), false);
        Bridges.add(bridge, 500, 0, 0, 1000, 0);
        bridge.tendon(500);
        dueBothWays(checks, bridge, 1000, false);
        bridge.point(1, 0, 0);
        dueBothWays(checks, bridge, 1000, false);
        bridge.point(1, 1000, 0);
        dueBothWays(checks, bridge, 1000, true);
        dueBothWays(checks, bridge, 1001, false);
        dueBothWays(checks, bridge, -1, false);
        dueBothWays(checks, bridge, Integer.MAX_VALUE, false);
        checks.due("clash with itself", bridge.clash(0, 0, 1000), false);
        checks.due("clash(0, 2, 10)", bridge.clash(0, 2, 10), false);
        for (int odd : Bridges.ODD_NUMBERS) {
            checks.due("clash(0, " + odd + ", 10)", bridge.clash(0, odd, 10), false);
            checks.due("clash(" + odd + ", 0, 10)", bridge.clash(odd, 0, 10), false);
        }
    }
}
