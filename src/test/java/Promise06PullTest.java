/** Promise 6: pulling. How forces fall off along a tendon is looked at in TermsForcesTest. */
public final class Promise06PullTest {
    public static void main(String[] args) {
        Checks checks = new Checks("Promise 6: pull");
        twoPointsAndNotLocked(checks);
        fromWhere(checks);
        withWhat(checks);
        howMuchLonger(checks);
        isPulledThen(checks);
        whatItHadIsGone(checks);
        noSuch(checks);
        checks.finish();
    }

    private static void twoPointsAndNotLocked(Checks checks) {
        checks.sentence("Pulls a tendon of two points or more that is not locked");
        TendonLosses bridge = new TendonLosses();
        bridge.tendon(1000);
        checks.due("pull without points", bridge.pull(0, 1, 5), TendonLosses.BAD);
        bridge.point(0, 0, 0);
        checks.due("pull with one point", bridge.pull(0, 1, 5), TendonLosses.BAD);
        bridge.point(0, 10_000, 0);
        checks.due("pull with two points", bridge.pull(0, 1, 39), 2);
        checks.due("pull with ten points", Bridges.full().pull(0, 1, 1_000_000) > 0, true);
        Refusals refusals = new Refusals(checks, Bridges::mixed);
        refusals.bad("pull with one point", b -> b.pull(4, 1, 5));
        refusals.bad("pull of a locked one", b -> b.pull(2, 1, 5));
        refusals.bad("pull of another locked one", b -> b.pull(3, 3, 10_000_000));
        TendonLosses cut = Bridges.mixed();
        cut.cut(3);
        checks.due("pull of one that was locked", cut.pull(3, 1, 39), 2);
    }

    private static void fromWhere(Checks checks) {
        checks.sentence(", from its beginning (1), end (2), both (3)");
        TendonLosses bridge = new TendonLosses();
        bridge.friction(1000, 500);
        int bent = Bridges.addBent(bridge);
        bridge.pull(bent, 1, 1_000_000);
        Bridges.dueForces(checks, bridge, bent, 1_000_000, 949_050, 853_289, 852_433);
        bridge.pull(bent, 2, 1_000_000);
        Bridges.dueForces(checks, bridge, bent, 852_433, 853_286, 899_097, 1_000_000);
        bridge.pull(bent, 3, 1_000_000);
        Bridges.dueForces(checks, bridge, bent, 1_000_000, 949_050, 899_097, 1_000_000);
        Refusals refusals = new Refusals(checks, Bridges::mixed);
        // 5 and 7 have the bits of an end that is pulled.
        int[] wrong = {0, 4, -1, 5, 7, Bridges.LEAST_INT, Bridges.LEAST_INT + 1, Bridges.MOST_INT};
        for (int from : wrong) {
            refusals.bad("pull(0, " + from + ", 5)", b -> b.pull(0, from, 5));
            refusals.bad("pull(1, " + from + ", 5)", b -> b.pull(1, from, 5));
        }
    }

    private static void withWhat(Checks checks) {
        checks.sentence(", with 1 .. 10,000,000 newtons");
        TendonLosses bridge = Bridges.plain();
        checks.due("one newton", bridge.pull(0, 1, 1), 0);
        Bridges.dueForces(checks, bridge, 0, 1, 1);
        checks.due("ten million newtons", bridge.pull(0, 1, 10_000_000), 512_820);
        Bridges.dueForces(checks, bridge, 0, 10_000_000, 10_000_000);
        Refusals refusals = new Refusals(checks, Bridges::mixed);
        int[] wrong = {0, -1, 10_000_001, Bridges.LEAST_INT, Bridges.MOST_INT};
        for (int force : wrong) {
            refusals.bad("pull(0, 1, " + force + ")", b -> b.pull(0, 1, force));
            refusals.bad("pull(1, 3, " + force + ")", b -> b.pull(1, 3, force));
        }
    }

    private static void howMuchLonger(Checks checks) {
        checks.sentence(": how much longer it is (below), in micrometres, before it slips.");
        TendonLosses bridge = new TendonLosses();
        bridge.friction(1000, 500);
        bridge.losses(20_000, 10, 3);
        int bent = Bridges.addBent(bridge);
        // Per piece: (1,000,000 + 949,050) * 1,000 / 390,000 = 4,997; then 4,639 and 4,391 with 1,004 mm.
        checks.due("pull", bridge.pull(bent, 1, 1_000_000), 14_027);
        checks.due("longer", bridge.longer(bent), 14_027);
        int straight = Bridges.addStraight(bridge);
        bridge.friction(0, 0);
        checks.due("19 newtons at each end", bridge.pull(straight, 1, 19), 0);
        checks.due("20 newtons at each end", bridge.pull(straight, 1, 20), 1);
    }

    private static void isPulledThen(Checks checks) {
        checks.sentence("It is PULLED then, not locked");
        TendonLosses bridge = Bridges.plain();
        checks.due("pulled ones before", bridge.count(2), 0);
        bridge.pull(0, 1, 1000);
        checks.due("pulled ones", bridge.count(2), 1);
        checks.due("locked ones", bridge.count(1), 0);
        checks.due("locked(0)", bridge.locked(0), TendonLosses.BAD);
        bridge.pull(0, 2, 1000);
        checks.due("pulled ones behind a second pull", bridge.count(2), 1);
    }

    private static void whatItHadIsGone(Checks checks) {
        checks.sentence("; what it had by pulling before is gone.");
        TendonLosses bridge = Bridges.plain();
        bridge.friction(1000, 0);
        bridge.pull(0, 1, 1000);
        Bridges.dueForces(checks, bridge, 0, 1000, 990);
        bridge.pull(0, 2, 500);
        Bridges.dueForces(checks, bridge, 0, 495, 500);
        // Its other end is an anchor no more: only the one that was pulled at last slips.
        bridge.friction(0, 0);
        bridge.pull(0, 3, 1_000_000);
        bridge.pull(0, 1, 500_000);
        bridge.losses(1000, 0, 0);
        checks.due("lock", bridge.lock(0), 1000);
        Bridges.dueForces(checks, bridge, 0, 480_500, 480_500);
    }

    private static void noSuch(Checks checks) {
        checks.sentence("BAD: none such.");
        checks.due("pull without tendons", new TendonLosses().pull(0, 1, 5), TendonLosses.BAD);
        Refusals refusals = new Refusals(checks, Bridges::mixed);
        for (int tendon : Bridges.NO_TENDONS) {
            refusals.bad("pull(" + tendon + ", 1, 5)", b -> b.pull(tendon, 1, 5));
        }
    }
}
