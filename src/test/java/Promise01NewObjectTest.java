/** Promise 1: no tendons; nothing is locked; and the numbers that hold at first. */
public final class Promise01NewObjectTest {
    public static void main(String[] args) {
        Checks checks = new Checks();
        nothingIsThere(checks);
        objectsAreApart(checks);
        firstNumbersHold(checks);
        checks.finish();
    }

    private static void nothingIsThere(Checks checks) {
        TendonLosses bridge = new TendonLosses();
        for (int what = 0; what <= 4; what++) {
            checks.due("count(" + what + ")", bridge.count(what), 0);
        }
        checks.due("locked(0)", bridge.locked(0), TendonLosses.BAD);
        checks.due("force(0, 0)", bridge.force(0, 0), TendonLosses.BAD);
        checks.due("BAD", TendonLosses.BAD, -1);
    }

    private static void objectsAreApart(Checks checks) {
        TendonLosses one = new TendonLosses();
        Bridges.addStraight(one);
        one.pull(0, 1, 1000);
        one.lock(0);
        one.days(5);
        one.friction(0, 0);
        nothingIsThere(checks);
    }

    private static void firstNumbersHold(Checks checks) {
        TendonLosses bridge = new TendonLosses();
        int bent = Bridges.addBent(bridge);
        bridge.pull(bent, 1, 1_000_000);
        // ROUGH 5: 5 and 4 and 4 of a million; MU 200: 2 and 4 hundredths.
        Bridges.dueForces(checks, bridge, bent, 1_000_000, 979_996, 940_793, 940_789);
        checks.due("lock without slip", bridge.lock(bent), 0);
        int straight = Bridges.addStraight(bridge);
        bridge.pull(straight, 3, 1_000_000);
        bridge.lock(straight);
        // SHARE 10: a hundredth of a million from the first one.
        checks.due("force behind the second lock", bridge.force(bent, 0), 990_000);
        bridge.days(1);
        // FADE 3: 3 of a million.
        checks.due("force a day later", bridge.force(straight, 0), 999_997);
    }
}
