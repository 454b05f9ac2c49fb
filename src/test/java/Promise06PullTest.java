/** Promise 6: pulling from the beginning, the end, both. */
public final class Promise06PullTest {
    public static void main(String[] args) {
        Checks checks = new Checks();
        fromEachEnd(checks);
        cutOffEachTime(checks);
        notBelowZero(checks);
        edgesAndWrongOnes(checks);
        statesThatMayBePulled(checks);
        checks.finish();
    }

    private static void fromEachEnd(Checks checks) {
        TendonLosses bridge = new TendonLosses();
        bridge.friction(1000, 500);
        int bent = Bridges.addBent(bridge);
        // Per piece: (1,000,000 + 949,050) * 1,000 / 390,000 = 4,997; then 4,639 and 4,391 with 1,004 mm.
        checks.due("pull from the beginning", bridge.pull(bent, 1, 1_000_000), 14_027);
        Bridges.dueForces(checks, bridge, bent, 1_000_000, 949_050, 853_289, 852_433);
        bridge.pull(bent, 2, 1_000_000);
        Bridges.dueForces(checks, bridge, bent, 852_433, 853_286, 899_097, 1_000_000);
        bridge.pull(bent, 3, 1_000_000);
        Bridges.dueForces(checks, bridge, bent, 1_000_000, 949_050, 899_097, 1_000_000);
        checks.due("longer is what pull answers", bridge.longer(bent), bridge.pull(bent, 3, 1_000_000));
    }

    private static void cutOffEachTime(Checks checks) {
        TendonLosses bridge = new TendonLosses();
        bridge.friction(1000, 500);
        int bent = Bridges.addBent(bridge);
        // 999 * 1,000,000 / 1,000,000,000 is 0.999: nothing is lost over the piece;
        // then 999 * 0.05 = 49.95: 49; 950 loses 0 and 95.
        bridge.pull(bent, 1, 999);
        Bridges.dueForces(checks, bridge, bent, 999, 950, 855, 855);
        bridge.pull(bent, 1, 1000);
        Bridges.dueForces(checks, bridge, bent, 1000, 950, 855, 855);
        // 333,667 * 27 * 111 is 999,999,999, one too little; so is 1,001 * 27 * 37 for a turn.
        bridge.friction(27, 27);
        int other = Bridges.add(bridge, 500, 0, 0, 111, 0, 1111, 37);
        bridge.pull(other, 1, 1001);
        Bridges.dueForces(checks, bridge, other, 1001, 1001, 1001);
        bridge.pull(other, 1, 1002);
        Bridges.dueForces(checks, bridge, other, 1002, 1001, 1001);
        int straight = Bridges.add(bridge, 500, 0, 0, 111, 0);
        bridge.pull(straight, 1, 333_667);
        Bridges.dueForces(checks, bridge, straight, 333_667, 333_667);
        bridge.pull(straight, 1, 333_668);
        Bridges.dueForces(checks, bridge, straight, 333_668, 333_667);
    }

    private static void notBelowZero(Checks checks) {
        TendonLosses bridge = new TendonLosses();
        bridge.friction(0, 500);
        // Slopes 60,000 and - 60,000: the turn takes sixty times the force.
        int steep = Bridges.add(bridge, 50, 0, -3000, 100, 3000, 200, -3000);
        bridge.pull(steep, 1, 10_000_000);
        Bridges.dueForces(checks, bridge, steep, 10_000_000, 0, 0);
        bridge.pull(steep, 3, 10_000_000);
        Bridges.dueForces(checks, bridge, steep, 10_000_000, 0, 10_000_000);
    }

    private static void edgesAndWrongOnes(Checks checks) {
        TendonLosses bridge = new TendonLosses();
        checks.due("pull without tendons", bridge.pull(0, 1, 5), TendonLosses.BAD);
        bridge.tendon(1000);
        checks.due("pull without points", bridge.pull(0, 1, 5), TendonLosses.BAD);
        bridge.point(0, 0, 0);
        checks.due("pull with one point", bridge.pull(0, 1, 5), TendonLosses.BAD);
        bridge.point(0, 10_000, 0);
        int[][] wrong = {{0, 0, 5}, {0, 4, 5}, {0, -1, 5}, {0, 1, 0}, {0, 1, -5}, {0, 1, 10_000_001},
            {1, 1, 5}, {-1, 1, 5}, {6, 1, 5}, {0, Integer.MAX_VALUE, 5}, {0, 1, Integer.MAX_VALUE}};
        for (int[] three : wrong) {
            checks.due("pull(" + three[0] + ", " + three[1] + ", " + three[2] + ")",
                    bridge.pull(three[0], three[1], three[2]), TendonLosses.BAD);
        }
        checks.due("pulled behind wrong ones", bridge.count(2), 0);
        bridge.friction(0, 0);
        checks.due("one newton", bridge.pull(0, 3, 1), 0);
        checks.due("ten million newtons", bridge.pull(0, 3, 10_000_000), 512_820);
    }

    private static void statesThatMayBePulled(Checks checks) {
        TendonLosses bridge = new TendonLosses();
        bridge.friction(1000, 0);
        int straight = Bridges.addStraight(bridge);
        bridge.pull(straight, 1, 1000);
        checks.due("a wrong pull", bridge.pull(straight, 1, 0), TendonLosses.BAD);
        Bridges.dueForces(checks, bridge, straight, 1000, 990);
        bridge.pull(straight, 2, 500);
        Bridges.dueForces(checks, bridge, straight, 495, 500);
        checks.due("pulled", bridge.count(2), 1);
        bridge.lock(straight);
        checks.due("pull of a locked one", bridge.pull(straight, 1, 1000), TendonLosses.BAD);
        Bridges.dueForces(checks, bridge, straight, 495, 500);
        bridge.cut(straight);
        bridge.pull(straight, 1, 1000);
        Bridges.dueForces(checks, bridge, straight, 1000, 990);
    }
}
