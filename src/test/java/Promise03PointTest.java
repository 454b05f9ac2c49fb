/** Promise 3: one more point. */
public final class Promise03PointTest {
    public static void main(String[] args) {
        Checks checks = new Checks("Promise 3: point");
        howMany(checks);
        noSuchTendon(checks);
        noSuchPlace(checks);
        pulledOrLocked(checks);
        atMostTen(checks);
        checks.finish();
    }

    private static void howMany(Checks checks) {
        checks.sentence("One more point of a tendon that is neither pulled nor locked: how many it has.");
        TendonLosses bridge = new TendonLosses();
        bridge.tendon(500);
        bridge.tendon(500);
        checks.due("the first of 0", bridge.point(0, 0, 0), 1);
        checks.due("the first of 1", bridge.point(1, 100_000, 0), 1);
        checks.due("the second of 0", bridge.point(0, 1000, 0), 2);
        checks.due("points of both", bridge.count(4), 3);
        checks.due("length of the piece", bridge.piece(0, 0, 0), 1000);
        bridge.point(0, 1000, 0);
        checks.due("a refused one is not counted", bridge.point(0, 1100, 0), 3);
    }

    private static void noSuchTendon(Checks checks) {
        checks.sentence("BAD: none such");
        TendonLosses empty = new TendonLosses();
        checks.due("point without tendons", empty.point(0, 0, 0), TendonLosses.BAD);
        Refusals refusals = new Refusals(checks, Bridges::mixed);
        for (int tendon : Bridges.NO_TENDONS) {
            refusals.bad("point(" + tendon + ", 50000, 0)", b -> b.point(tendon, 50_000, 0));
        }
    }

    private static void noSuchPlace(Checks checks) {
        checks.sentence("none such");
        Refusals refusals = new Refusals(checks, Bridges::mixed);
        // Tendon 0 ends at 3,000. The least int lies far behind it if differences wrap around.
        int[][] wrong = {{3099, 0}, {3000, 0}, {2999, 0}, {0, 0}, {-1, 0}, {100_001, 0}, {50_000, 3001},
            {50_000, -3001}, {50_000, Bridges.LEAST_INT}, {50_000, Bridges.MOST_INT},
            {Bridges.LEAST_INT, 0}, {Bridges.LEAST_INT + 3000, 0}, {Bridges.MOST_INT, 0}, {-1, -3001}};
        for (int[] place : wrong) {
            refusals.bad("point(0, " + place[0] + ", " + place[1] + ")", b -> b.point(0, place[0], place[1]));
        }
        int[][] right = {{3100, 0}, {100_000, 0}, {50_000, 3000}, {50_000, -3000}};
        for (int[] place : right) {
            checks.due("point(0, " + place[0] + ", " + place[1] + ")",
                    Bridges.mixed().point(0, place[0], place[1]), 5);
        }
    }

    private static void pulledOrLocked(Checks checks) {
        checks.sentence("; it is;");
        Refusals refusals = new Refusals(checks, Bridges::mixed);
        refusals.bad("point of a pulled one", b -> b.point(1, 50_000, 0));
        refusals.bad("point of a locked one", b -> b.point(2, 50_000, 0));
        refusals.bad("point of another locked one", b -> b.point(3, 50_000, 0));
        TendonLosses bridge = Bridges.mixed();
        bridge.cut(1);
        checks.due("point of one let go", bridge.point(1, 50_000, 0), 5);
        bridge.cut(3);
        checks.due("point of one cut", bridge.point(3, 50_000, 0), 3);
    }

    private static void atMostTen(Checks checks) {
        checks.sentence("it has 10.");
        TendonLosses bridge = new TendonLosses();
        bridge.tendon(500);
        bridge.tendon(500);
        for (int i = 1; i <= 10; i++) {
            checks.due("point " + i, bridge.point(0, i * 100, 0), i);
        }
        checks.due("an eleventh", bridge.point(0, 5000, 0), TendonLosses.BAD);
        checks.due("the first of the next tendon", bridge.point(1, 5000, 0), 1);
        checks.due("count(4)", bridge.count(4), 11);
        new Refusals(checks, Bridges::full).bad("an eleventh", b -> b.point(0, 50_000, 0));
    }
}
