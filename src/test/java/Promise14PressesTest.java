/** Promise 14: what a tendon presses at a point. */
public final class Promise14PressesTest {
    public static void main(String[] args) {
        Checks checks = new Checks();
        TendonLosses bridge = new TendonLosses();
        checks.due("presses without tendons", bridge.presses(0, 1), Bridges.NONE);
        int bent = Bridges.addBent(bridge);
        checks.due("presses of one not pulled", bridge.presses(bent, 1), Bridges.NONE);
        bridge.friction(0, 0);
        bridge.pull(bent, 1, 1009);
        // Slopes 0, 100, - 100: 100.9 up and 201.8 down, cut off towards 0.
        checks.due("presses(0, 1)", bridge.presses(bent, 1), 100);
        checks.due("presses(0, 2)", bridge.presses(bent, 2), -201);
        checks.due("presses at the beginning", bridge.presses(bent, 0), Bridges.NONE);
        checks.due("presses at the end", bridge.presses(bent, 3), Bridges.NONE);
        for (int odd : Bridges.ODD_NUMBERS) {
            checks.due("presses(0, " + odd + ")", bridge.presses(bent, odd), Bridges.NONE);
            checks.due("presses(" + odd + ", 1)", bridge.presses(odd, 1), Bridges.NONE);
        }
        bridge.losses(0, 0, 1000);
        bridge.lock(bent);
        bridge.days(5);
        // 1,009 loses 1 a day while it is 1,000 or more.
        checks.due("presses while locked", bridge.presses(bent, 2), -200);
        bridge.cut(bent);
        checks.due("presses behind cut", bridge.presses(bent, 1), Bridges.NONE);
        greatest(checks);
        checks.finish();
    }

    private static void greatest(Checks checks) {
        TendonLosses bridge = new TendonLosses();
        bridge.friction(0, 0);
        int steep = Bridges.add(bridge, 50, 0, -3000, 100, 3000, 200, -3000, 300, 3000, 400, 3000);
        bridge.pull(steep, 1, 10_000_000);
        checks.due("presses most downwards", bridge.presses(steep, 1), -1_200_000_000);
        checks.due("presses most upwards", bridge.presses(steep, 2), 1_200_000_000);
        checks.due("presses", bridge.presses(steep, 3), -600_000_000);
    }
}
