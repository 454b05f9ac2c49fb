/** Promise 14: what a tendon presses at a point. */
public final class Promise14PressesTest {
    public static void main(String[] args) {
        Checks checks = new Checks("Promise 14: presses");
        lockedOrPulled(checks);
        forceTimesSlopes(checks);
        greatest(checks);
        noSuch(checks);
        checks.finish();
    }

    private static void lockedOrPulled(Checks checks) {
        checks.sentence("What a locked or pulled tendon presses at a point between two pieces");
        TendonLosses bridge = new TendonLosses();
        int bent = Bridges.addBent(bridge);
        bridge.friction(0, 0);
        bridge.pull(bent, 1, 1009);
        checks.due("presses while pulled", bridge.presses(bent, 2), -201);
        bridge.losses(0, 0, 1000);
        bridge.lock(bent);
        bridge.days(5);
        // 1,009 loses 1 a day while it is 1,000 or more.
        checks.due("presses while locked", bridge.presses(bent, 2), -200);
        checks.due("presses at the beginning", bridge.presses(bent, 0), Bridges.NONE);
        checks.due("presses at the end", bridge.presses(bent, 3), Bridges.NONE);
        int two = Bridges.addStraight(bridge);
        bridge.pull(two, 1, 1000);
        checks.due("presses of two points, at 0", bridge.presses(two, 0), Bridges.NONE);
        checks.due("presses of two points, at 1", bridge.presses(two, 1), Bridges.NONE);
    }

    private static void forceTimesSlopes(Checks checks) {
        checks.sentence(": its force there times the second slope less the first one, by 1,000, cut off towards 0"
                + " (newtons, downwards above 0 if y goes up).");
        TendonLosses bridge = new TendonLosses();
        int bent = Bridges.addBent(bridge);
        bridge.friction(0, 500);
        bridge.pull(bent, 1, 1009);
        // Slopes 0, 100, - 100; 1,009 becomes 959 and 864: 95.9 and - 172.8.
        checks.due("presses(0, 1)", bridge.presses(bent, 1), 95);
        checks.due("presses(0, 2)", bridge.presses(bent, 2), -172);
        bridge.friction(0, 0);
        bridge.pull(bent, 1, 9);
        checks.due("0.9 newtons", bridge.presses(bent, 1), 0);
        bridge.pull(bent, 1, 4);
        checks.due("- 0.8 newtons", bridge.presses(bent, 2), 0);
        bridge.pull(bent, 1, 10);
        checks.due("1 newton", bridge.presses(bent, 1), 1);
        checks.due("- 2 newtons", bridge.presses(bent, 2), -2);
        int straight = Bridges.add(bridge, 500, 0, 0, 1000, 50, 2000, 100);
        bridge.pull(straight, 1, 10_000_000);
        checks.due("presses without a turn", bridge.presses(straight, 1), 0);
    }

    private static void greatest(Checks checks) {
        TendonLosses bridge = new TendonLosses();
        bridge.friction(0, 0);
        int steep = Bridges.add(bridge, 50, 0, -3000, 100, 3000, 200, -3000, 300, 3000, 400, 3000);
        bridge.pull(steep, 1, 10_000_000);
        checks.due("presses most, below 0", bridge.presses(steep, 1), -1_200_000_000);
        checks.due("presses most, above 0", bridge.presses(steep, 2), 1_200_000_000);
        checks.due("presses", bridge.presses(steep, 3), -600_000_000);
    }

    private static void noSuch(Checks checks) {
        checks.sentence("NONE (- 2,000,000,000): none such.");
        checks.due("presses without tendons", new TendonLosses().presses(0, 1), Bridges.NONE);
        Refusals refusals = new Refusals(checks, Bridges::mixed);
        for (int tendon : Bridges.NO_TENDONS) {
            refusals.none("presses(" + tendon + ", 1)", b -> b.presses(tendon, 1));
        }
        int[] noPoints = {0, 3, 4, 9, 10, -1, Bridges.LEAST_INT, Bridges.MOST_INT};
        for (int point : noPoints) {
            refusals.none("presses(1, " + point + ")", b -> b.presses(1, point));
            refusals.none("presses(2, " + point + ")", b -> b.presses(2, point));
        }
        refusals.none("presses of one that is neither", b -> b.presses(0, 1));
        refusals.none("presses of one with one point", b -> b.presses(4, 0));
        TendonLosses cut = Bridges.mixed();
        checks.due("presses before letting go", cut.presses(1, 1) > 0, true);
        cut.cut(1);
        checks.due("presses behind letting go", cut.presses(1, 1), Bridges.NONE);
        cut.cut(2);
        checks.due("presses behind cut", cut.presses(2, 1), Bridges.NONE);
        int[] ofTen = {1, 8};
        for (int point : ofTen) {
            checks.due("presses(1, " + point + ") of ten", Bridges.full().presses(1, point) != Bridges.NONE, true);
        }
        checks.due("presses(1, 9) of ten", Bridges.full().presses(1, 9), Bridges.NONE);
    }
}
