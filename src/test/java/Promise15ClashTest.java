/** Promise 15: ducts that come too near. */
public final class Promise15ClashTest {
    public static void main(String[] args) {
        Checks checks = new Checks("Promise 15: clash");
        nearer(checks);
        crossing(checks);
        greatest(checks);
        atSomeX(checks);
        noSuch(checks);
        theSame(checks);
        withoutTwoPoints(checks);
        checks.finish();
    }

    private static void dueBothWays(Checks checks, TendonLosses bridge, int apart, boolean want) {
        checks.due("clash(0, 1, " + apart + ")", bridge.clash(0, 1, apart), want);
        checks.due("clash(1, 0, " + apart + ")", bridge.clash(1, 0, apart), want);
    }

    /** Two straight ducts, the second one so much higher. */
    private static TendonLosses parallel(int higher) {
        TendonLosses bridge = new TendonLosses();
        Bridges.add(bridge, 500, 0, 0, 10_000, 0);
        Bridges.add(bridge, 500, 0, higher, 10_000, higher);
        return bridge;
    }

    private static void nearer(Checks checks) {
        checks.sentence("Whether the ducts of two tendons come nearer to each other in y than so many"
                + " millimetres (0 .. 1,000)");
        dueBothWays(checks, parallel(100), 0, false);
        dueBothWays(checks, parallel(100), 99, false);
        dueBothWays(checks, parallel(100), 100, false);
        dueBothWays(checks, parallel(100), 101, true);
        dueBothWays(checks, parallel(-100), 100, false);
        dueBothWays(checks, parallel(-100), 101, true);
        dueBothWays(checks, parallel(0), 0, false);
        dueBothWays(checks, parallel(0), 1, true);
        dueBothWays(checks, parallel(999), 1000, true);
        dueBothWays(checks, parallel(1000), 1000, false);
        dueBothWays(checks, parallel(1000), 1001, false);
        dueBothWays(checks, parallel(0), -1, false);
        dueBothWays(checks, parallel(0), 1001, false);
        dueBothWays(checks, parallel(0), Bridges.MOST_INT, false);
        dueBothWays(checks, parallel(0), Bridges.LEAST_INT, false);
        betweenWholeNumbers(checks);
    }

    private static void betweenWholeNumbers(Checks checks) {
        TendonLosses above = new TendonLosses();
        Bridges.add(above, 500, 0, -500, 100, 0, 200, -500);
        Bridges.add(above, 500, 0, 20, 300, 21);
        // At 100 it is 20 1/3.
        dueBothWays(checks, above, 20, false);
        dueBothWays(checks, above, 21, true);
        TendonLosses below = new TendonLosses();
        Bridges.add(below, 500, 0, 500, 100, 0, 200, 500);
        Bridges.add(below, 500, 0, -21, 300, -20);
        // At 100 it is - 20 2/3.
        dueBothWays(checks, below, 20, false);
        dueBothWays(checks, below, 21, true);
        TendonLosses under = new TendonLosses();
        Bridges.add(under, 500, 0, 530, 100, 30, 200, 530);
        Bridges.add(under, 500, 0, 20, 300, 22);
        // At 100 it is 9 1/3, which would be 10 if the 20 2/3 of the second one were cut off.
        dueBothWays(checks, under, 9, false);
        dueBothWays(checks, under, 10, true);
    }

    private static void crossing(Checks checks) {
        TendonLosses bridge = new TendonLosses();
        // They cross within one piece of each and are far apart at every point.
        Bridges.add(bridge, 500, 0, 0, 200, 3000);
        Bridges.add(bridge, 500, 0, 3000, 200, -3000);
        dueBothWays(checks, bridge, 0, false);
        dueBothWays(checks, bridge, 1, true);
        TendonLosses steep = new TendonLosses();
        // They cross at 50 1/2; at 50 and at 51 they are 59 mm apart.
        Bridges.add(steep, 500, 0, -3000, 101, 3000);
        Bridges.add(steep, 500, 0, 3000, 101, -3000);
        dueBothWays(checks, steep, 0, false);
        dueBothWays(checks, steep, 1, true);
    }

    private static void greatest(Checks checks) {
        TendonLosses bridge = new TendonLosses();
        // The distance grows over 100,000 mm from 1,000 to 5,000.
        Bridges.add(bridge, 500, 0, -500, 100_000, -2000);
        Bridges.add(bridge, 500, 0, 500, 100_000, 3000);
        dueBothWays(checks, bridge, 1000, false);
        dueBothWays(checks, bridge, 999, false);
        TendonLosses nearer = new TendonLosses();
        Bridges.add(nearer, 500, 0, -500, 100_000, -2000);
        Bridges.add(nearer, 500, 0, 499, 100_000, 3000);
        dueBothWays(checks, nearer, 999, false);
        dueBothWays(checks, nearer, 1000, true);
        TendonLosses far = new TendonLosses();
        Bridges.add(far, 500, 0, -3000, 100_000, -3000);
        Bridges.add(far, 500, 0, 3000, 100_000, 3000);
        dueBothWays(checks, far, 1000, false);
    }

    private static void atSomeX(Checks checks) {
        checks.sentence(" at some x that both have.");
        TendonLosses apart = new TendonLosses();
        Bridges.add(apart, 500, 0, 0, 1000, 0);
        Bridges.add(apart, 500, 1001, 0, 2000, 0);
        dueBothWays(checks, apart, 1000, false);
        TendonLosses touching = new TendonLosses();
        Bridges.add(touching, 500, 0, 0, 1000, 0);
        Bridges.add(touching, 500, 1000, 30, 2000, 0);
        dueBothWays(checks, touching, 30, false);
        dueBothWays(checks, touching, 31, true);
        TendonLosses over = new TendonLosses();
        // The second one would come nearer behind the end of the first one.
        Bridges.add(over, 500, 0, 0, 1000, 0);
        Bridges.add(over, 500, 500, 1000, 1500, 0);
        dueBothWays(checks, over, 500, false);
        dueBothWays(checks, over, 501, true);
        TendonLosses within = new TendonLosses();
        // One lies within a piece of the other; they are nearest where it begins.
        Bridges.add(within, 500, 0, 0, 10_000, 1000);
        Bridges.add(within, 500, 4000, 500, 6000, 800);
        dueBothWays(checks, within, 100, false);
        dueBothWays(checks, within, 101, true);
        lastPieces(checks);
    }

    private static void lastPieces(Checks checks) {
        TendonLosses bridge = Bridges.full();
        // The tendons of a full bridge lie on each other, so that they clash in every piece.
        checks.due("clash of ten points", bridge.clash(0, 5, 1), true);
        TendonLosses last = new TendonLosses();
        Bridges.add(last, 500, 0, 0, 100, 0, 200, 0, 300, 0, 400, 0, 500, 0, 600, 0, 700, 0, 800, 0, 900, 0);
        Bridges.add(last, 500, 0, 2000, 100, 2000, 200, 2000, 300, 2000, 400, 2000, 500, 2000, 600, 2000,
                700, 2000, 800, 2000, 900, 10);
        dueBothWays(checks, last, 10, false);
        dueBothWays(checks, last, 11, true);
    }

    private static void noSuch(Checks checks) {
        checks.sentence("False also: none such");
        checks.due("clash without tendons", new TendonLosses().clash(0, 1, 10), false);
        Refusals refusals = new Refusals(checks, Bridges::mixed);
        for (int tendon : Bridges.NO_TENDONS) {
            refusals.no("clash(0, " + tendon + ", 1000)", b -> b.clash(0, tendon, 1000));
            refusals.no("clash(" + tendon + ", 0, 1000)", b -> b.clash(tendon, 0, 1000));
        }
        int[] noDistances = {-1, 1001, Bridges.LEAST_INT, Bridges.MOST_INT};
        for (int apart : noDistances) {
            refusals.no("clash(0, 1, " + apart + ")", b -> b.clash(0, 1, apart));
        }
        refusals.yes("clash of a free and a pulled one", b -> b.clash(0, 1, 1));
        refusals.yes("clash of two locked ones", b -> b.clash(2, 3, 1));
    }

    private static void theSame(Checks checks) {
        checks.sentence(", the same");
        Refusals refusals = new Refusals(checks, Bridges::mixed);
        for (int tendon = -1; tendon <= 6; tendon++) {
            int same = tendon;
            refusals.no("clash of " + tendon + " with itself", b -> b.clash(same, same, 1000));
        }
    }

    private static void withoutTwoPoints(Checks checks) {
        checks.sentence(", without two points each.");
        TendonLosses bridge = new TendonLosses();
        bridge.tendon(500);
        bridge.tendon(500);
        dueBothWays(checks, bridge, 1000, false);
        bridge.point(0, 0, 0);
        bridge.point(0, 1000, 0);
        dueBothWays(checks, bridge, 1000, false);
        bridge.point(1, 0, 0);
        dueBothWays(checks, bridge, 1000, false);
        bridge.point(1, 1000, 0);
        dueBothWays(checks, bridge, 1000, true);
        TendonLosses ones = new TendonLosses();
        Bridges.add(ones, 500, 0, 0);
        Bridges.add(ones, 500, 0, 0);
        dueBothWays(checks, ones, 1000, false);
    }
}
