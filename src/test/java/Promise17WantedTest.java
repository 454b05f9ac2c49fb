/** Promise 17: the least pull that is enough. */
public final class Promise17WantedTest {
    public static void main(String[] args) {
        Checks checks = new Checks("Promise 17: wanted");
        leastPull(checks);
        fromWhere(checks);
        leastForce(checks);
        nothingIsChanged(checks);
        noSuchTendon(checks);
        noSuchFrom(checks);
        noSuchStep(checks);
        tooLittle(checks);
        checks.finish();
    }

    /** A pull of 1,000 leaves 990 at the other end, whichever is pulled. */
    private static TendonLosses rough() {
        TendonLosses bridge = new TendonLosses();
        bridge.friction(1000, 0);
        Bridges.addStraight(bridge);
        return bridge;
    }

    private static void leastPull(Checks checks) {
        checks.sentence("The least pull of 0, step, .. 50 step");
        TendonLosses bridge = rough();
        checks.due("wanted least int", bridge.wanted(0, 1, 100, Bridges.LEAST_INT), 0);
        checks.due("wanted - 1", bridge.wanted(0, 1, 100, -1), 0);
        checks.due("wanted 0", bridge.wanted(0, 1, 100, 0), 0);
        checks.due("wanted 1", bridge.wanted(0, 1, 100, 1), 100);
        checks.due("wanted 99", bridge.wanted(0, 1, 100, 99), 100);
        checks.due("wanted 100", bridge.wanted(0, 1, 100, 100), 200);
        checks.due("wanted 4,950", bridge.wanted(0, 1, 100, 4950), 5000);
        checks.due("step 1, the first", bridge.wanted(0, 1, 1, 1), 1);
        checks.due("step 1, the last", bridge.wanted(0, 1, 1, 50), 50);
    }

    private static void fromWhere(Checks checks) {
        checks.sentence(", from the beginning (1), end (2) or both (3)");
        TendonLosses bridge = new TendonLosses();
        bridge.friction(1000, 500);
        Bridges.add(bridge, 500, 0, 0, 20_000, 0, 21_000, 100);
        // What is cut off tells the ends apart: 1,001 leaves 932 at the end, but 931 at the beginning.
        bridge.pull(0, 1, 1001);
        Bridges.dueForces(checks, bridge, 0, 1001, 932, 932);
        bridge.pull(0, 2, 1001);
        Bridges.dueForces(checks, bridge, 0, 931, 950, 1001);
        checks.due("from the beginning", bridge.wanted(0, 1, 1001, 932), 1001);
        checks.due("from the beginning", bridge.wanted(0, 1, 1001, 933), 2002);
        checks.due("from the end", bridge.wanted(0, 2, 1001, 931), 1001);
        checks.due("from the end", bridge.wanted(0, 2, 1001, 932), 2002);
        checks.due("from both", bridge.wanted(0, 3, 1001, 950), 1001);
        checks.due("from both", bridge.wanted(0, 3, 1001, 951), 2002);
    }

    private static void leastForce(Checks checks) {
        checks.sentence(", with which the least force at the points of a tendon, before it slips,"
                + " is at least so much");
        TendonLosses bridge = rough();
        bridge.losses(20_000, 10, 3);
        checks.due("wanted 990", bridge.wanted(0, 1, 100, 990), 1000);
        checks.due("wanted 991", bridge.wanted(0, 1, 100, 991), 1100);
        // Turns 100 and 200: from both, 1,000 leaves 950 and 900 at the points between.
        bridge.friction(0, 500);
        int bent = Bridges.addBent(bridge);
        checks.due("at the last point", bridge.wanted(bent, 1, 1000, 855), 1000);
        checks.due("at the last point", bridge.wanted(bent, 1, 1000, 856), 2000);
        checks.due("at the first point", bridge.wanted(bent, 2, 1000, 855), 1000);
        checks.due("at the first point", bridge.wanted(bent, 2, 1000, 856), 2000);
        checks.due("between", bridge.wanted(bent, 3, 1000, 900), 1000);
        checks.due("between", bridge.wanted(bent, 3, 1000, 901), 2000);
    }

    private static void nothingIsChanged(Checks checks) {
        checks.sentence(" (nothing is changed).");
        Refusals refusals = new Refusals(checks, Bridges::mixed);
        // The lengths take 0.07 of a thousandth each, the turns 15 and 30 thousandths.
        for (int tendon = 0; tendon <= 2; tendon++) {
            int which = tendon;
            refusals.changesNothing("wanted of tendon " + tendon, b -> b.wanted(which, 1, 1000, 9000), 10_000);
        }
        refusals.changesNothing("wanted of a locked one", b -> b.wanted(3, 3, 200_000, 9_999_000), 10_000_000);
        refusals.bad("wanted that is too much", b -> b.wanted(1, 3, 1000, 50_001));
    }

    private static void noSuchTendon(Checks checks) {
        checks.sentence("BAD: none such tendon (of two points)");
        TendonLosses bridge = new TendonLosses();
        checks.due("wanted without tendons", bridge.wanted(0, 1, 5, 0), TendonLosses.BAD);
        bridge.tendon(500);
        checks.due("wanted without points", bridge.wanted(0, 1, 5, 0), TendonLosses.BAD);
        bridge.point(0, 0, 0);
        checks.due("wanted with one point", bridge.wanted(0, 1, 5, 0), TendonLosses.BAD);
        bridge.point(0, 1000, 0);
        checks.due("wanted with two points", bridge.wanted(0, 1, 5, 0), 0);
        Refusals refusals = new Refusals(checks, Bridges::mixed);
        for (int tendon : Bridges.NO_TENDONS) {
            refusals.bad("wanted(" + tendon + ", 1, 5, 0)", b -> b.wanted(tendon, 1, 5, 0));
        }
        refusals.bad("wanted with one point", b -> b.wanted(4, 1, 5, 0));
        checks.due("wanted with ten points", Bridges.full().wanted(0, 1, 5, 0), 0);
    }

    private static void noSuchFrom(Checks checks) {
        checks.sentence(", from, ");
        Refusals refusals = new Refusals(checks, Bridges::mixed);
        int[] wrong = {0, 4, -1, 5, 7, Bridges.LEAST_INT, Bridges.MOST_INT};
        for (int from : wrong) {
            refusals.bad("wanted(0, " + from + ", 5, 0)", b -> b.wanted(0, from, 5, 0));
        }
        for (int from = 1; from <= 3; from++) {
            checks.due("wanted(0, " + from + ", 5, 0)", Bridges.mixed().wanted(0, from, 5, 0), 0);
        }
    }

    private static void noSuchStep(Checks checks) {
        checks.sentence("step (1 .. 200,000)");
        Refusals refusals = new Refusals(checks, Bridges::mixed);
        // Fifty times 85,899,346 wraps around to a small number.
        int[] wrong = {0, -1, 200_001, 85_899_346, Bridges.LEAST_INT, Bridges.MOST_INT};
        for (int step : wrong) {
            refusals.bad("wanted(0, 1, " + step + ", 0)", b -> b.wanted(0, 1, step, 0));
            refusals.bad("wanted(0, 1, " + step + ", 1)", b -> b.wanted(0, 1, step, 1));
        }
        checks.due("the least step", rough().wanted(0, 1, 1, 0), 0);
        checks.due("the greatest step", rough().wanted(0, 1, 200_000, 1), 200_000);
    }

    private static void tooLittle(Checks checks) {
        checks.sentence("; 50 step is too little.");
        TendonLosses bridge = rough();
        checks.due("wanted 4,951", bridge.wanted(0, 1, 100, 4951), TendonLosses.BAD);
        checks.due("wanted 51 with step 1", bridge.wanted(0, 1, 1, 51), TendonLosses.BAD);
        checks.due("the greatest of all", bridge.wanted(0, 1, 200_000, 9_900_000), 10_000_000);
        checks.due("above the greatest", bridge.wanted(0, 1, 200_000, 9_900_001), TendonLosses.BAD);
        checks.due("wanted greatest int", bridge.wanted(0, 1, 200_000, Bridges.MOST_INT), TendonLosses.BAD);
        bridge.friction(0, 500);
        int steep = Bridges.add(bridge, 50, 0, -3000, 100, 3000, 200, -3000);
        // Nothing comes past its turn.
        checks.due("wanted 1 behind a steep turn", bridge.wanted(steep, 3, 200_000, 1), TendonLosses.BAD);
        checks.due("wanted 0 behind a steep turn", bridge.wanted(steep, 3, 200_000, 0), 0);
    }
}
