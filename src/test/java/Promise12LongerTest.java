/** Promise 12: how much longer a tendon is. */
public final class Promise12LongerTest {
    public static void main(String[] args) {
        Checks checks = new Checks();
        TendonLosses bridge = new TendonLosses();
        checks.due("longer without tendons", bridge.longer(0), TendonLosses.BAD);
        int straight = Bridges.addStraight(bridge);
        checks.due("longer of one not pulled", bridge.longer(straight), TendonLosses.BAD);
        for (int odd : Bridges.ODD_NUMBERS) {
            checks.due("longer(" + odd + ")", bridge.longer(odd), TendonLosses.BAD);
        }
        bridge.friction(1000, 0);
        bridge.pull(straight, 1, 1_000_000);
        // 1,990,000 * 10,000 * 1,000 / 390,000,000
        checks.due("longer while pulled", bridge.longer(straight), 51_025);
        bridge.losses(0, 0, 1000);
        bridge.lock(straight);
        bridge.days(1);
        // 1,988,010 newtons are left.
        checks.due("longer a day later", bridge.longer(straight), 50_974);
        bridge.cut(straight);
        checks.due("longer behind cut", bridge.longer(straight), TendonLosses.BAD);
        eachPieceIsCutOff(checks);
        greatest(checks);
        checks.finish();
    }

    private static void eachPieceIsCutOff(Checks checks) {
        TendonLosses bridge = new TendonLosses();
        bridge.friction(0, 0);
        int row = Bridges.add(bridge, 1000, 0, 0, 1000, 0, 2000, 0, 3000, 0, 4000, 0);
        // 2 * 389 * 1,000 * 1,000 / 390,000,000 is 1.99 for each of four pieces.
        checks.due("pull", bridge.pull(row, 1, 389), 4);
        checks.due("longer", bridge.longer(row), 4);
        bridge.pull(row, 1, 390);
        checks.due("longer", bridge.longer(row), 8);
    }

    private static void greatest(Checks checks) {
        TendonLosses bridge = new TendonLosses();
        bridge.friction(0, 0);
        int thin = Bridges.add(bridge, 50, 0, -3000, 100_000, 3000);
        // A length of 100,179 under 20,000,000 newtons at both ends together.
        checks.due("pull", bridge.pull(thin, 3, 10_000_000), 102_747_692);
        checks.due("longer", bridge.longer(thin), 102_747_692);
    }
}
