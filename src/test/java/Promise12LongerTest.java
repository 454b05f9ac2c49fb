/** Promise 12: how much longer a tendon is. */
public final class Promise12LongerTest {
    public static void main(String[] args) {
        Checks checks = new Checks("Promise 12: longer");
        byItsForces(checks);
        greatest(checks);
        eachPieceIsCutOff(checks);
        noSuchOrNeither(checks);
        checks.finish();
    }

    private static void byItsForces(Checks checks) {
        checks.sentence("How much longer a tendon is by its forces, in micrometres: the sum, over pieces, of both"
                + " ends' forces together, times the length, times 1,000, by twice the area times 195,000");
        TendonLosses bridge = new TendonLosses();
        int straight = Bridges.addStraight(bridge);
        bridge.friction(1000, 0);
        bridge.pull(straight, 1, 1_000_000);
        // 1,990,000 * 10,000 * 1,000 / 390,000,000
        checks.due("longer while pulled", bridge.longer(straight), 51_025);
        bridge.losses(0, 0, 1000);
        bridge.lock(straight);
        bridge.days(1);
        // 1,988,010 newtons are left.
        checks.due("longer a day later", bridge.longer(straight), 50_974);
        bridge.losses(20_000, 0, 0);
        bridge.cut(straight);
        bridge.pull(straight, 1, 1);
        bridge.lock(straight);
        checks.due("longer with no force left", bridge.longer(straight), 0);
    }

    private static void greatest(Checks checks) {
        TendonLosses bridge = new TendonLosses();
        bridge.friction(0, 0);
        int thin = Bridges.add(bridge, 50, 0, -3000, 100_000, 3000);
        // A length of 100,179 under 20,000,000 newtons at both ends together.
        checks.due("pull", bridge.pull(thin, 3, 10_000_000), 102_747_692);
        checks.due("longer", bridge.longer(thin), 102_747_692);
        int zigzag = Bridges.add(bridge, 50, 0, -3000, 100, 3000, 200, -3000, 300, 3000, 400, -3000, 500, 3000,
                600, -3000, 700, 3000, 800, -3000, 100_000, 3000);
        // Eight pieces of 6,000 and one of 99,381: 6,153,846 each and 101,929,230.
        checks.due("pull", bridge.pull(zigzag, 1, 10_000_000), 151_159_998);
        int thick = Bridges.add(bridge, 10_000, 0, 0, 100, 0);
        // 2 * 19,500,000 * 100 * 1,000 / 3,900,000,000
        checks.due("a thick one", bridge.pull(thick, 1, 9_750_000), 500);
        checks.due("one micrometre less", bridge.pull(thick, 1, 9_749_999), 499);
    }

    private static void eachPieceIsCutOff(Checks checks) {
        checks.sentence(", cut off for each piece.");
        TendonLosses bridge = new TendonLosses();
        bridge.friction(0, 0);
        int row = Bridges.add(bridge, 1000, 0, 0, 1000, 0, 2000, 0, 3000, 0, 4000, 0);
        // 2 * 389 * 1,000 * 1,000 / 390,000,000 is 1.99 for each of four pieces.
        checks.due("pull", bridge.pull(row, 1, 389), 4);
        checks.due("longer", bridge.longer(row), 4);
        bridge.pull(row, 1, 390);
        checks.due("longer", bridge.longer(row), 8);
        bridge.pull(row, 1, 194);
        checks.due("longer", bridge.longer(row), 0);
        bridge.pull(row, 1, 195);
        checks.due("longer", bridge.longer(row), 4);
    }

    private static void noSuchOrNeither(Checks checks) {
        checks.sentence("BAD: none such, it is neither pulled nor locked.");
        checks.due("longer without tendons", new TendonLosses().longer(0), TendonLosses.BAD);
        Refusals refusals = new Refusals(checks, Bridges::mixed);
        for (int tendon : Bridges.NO_TENDONS) {
            refusals.bad("longer(" + tendon + ")", b -> b.longer(tendon));
        }
        refusals.bad("longer of one that is neither", b -> b.longer(0));
        refusals.bad("longer of one with one point", b -> b.longer(4));
        TendonLosses bridge = Bridges.plain();
        bridge.pull(0, 1, 39);
        checks.due("longer", bridge.longer(0), 2);
        bridge.cut(0);
        checks.due("longer behind letting go", bridge.longer(0), TendonLosses.BAD);
        bridge.pull(0, 1, 39);
        bridge.lock(0);
        checks.due("longer while locked", bridge.longer(0), 2);
        bridge.cut(0);
        checks.due("longer behind cut", bridge.longer(0), TendonLosses.BAD);
    }
}
