/** 'Terms', first part: tendons, points, pieces. */
public final class TermsPlacesTest {
    public static void main(String[] args) {
        Checks checks = new Checks("Terms");
        tendonsAndPoints(checks);
        placesInX(checks);
        risingBy100(checks);
        placesInY(checks);
        areas(checks);
        pieces(checks);
        lengths(checks);
        slopes(checks);
        turns(checks);
        checks.finish();
    }

    private static TendonLosses withOne() {
        TendonLosses bridge = new TendonLosses();
        bridge.tendon(500);
        return bridge;
    }

    private static void tendonsAndPoints(Checks checks) {
        checks.sentence("TENDONS 0 .. 5 have up to 10 POINTS");
        TendonLosses bridge = new TendonLosses();
        for (int tendon = 0; tendon < 6; tendon++) {
            checks.due("tendon", bridge.tendon(500), tendon);
        }
        checks.due("a seventh", bridge.tendon(500), TendonLosses.BAD);
        for (int p = 1; p <= 10; p++) {
            for (int tendon = 0; tendon < 6; tendon++) {
                checks.due("point " + p + " of " + tendon, bridge.point(tendon, 100 * p, 0), p);
            }
        }
        for (int tendon = -1; tendon <= 6; tendon++) {
            checks.due("an eleventh of " + tendon, bridge.point(tendon, 5000, 0), TendonLosses.BAD);
        }
    }

    private static void placesInX(Checks checks) {
        checks.sentence(", x (millimetres, 0 .. 100,000)");
        checks.due("the first at - 1", withOne().point(0, -1, 0), TendonLosses.BAD);
        checks.due("the first at 0", withOne().point(0, 0, 0), 1);
        checks.due("the first at 100,000", withOne().point(0, 100_000, 0), 1);
        checks.due("the first at 100,001", withOne().point(0, 100_001, 0), TendonLosses.BAD);
        TendonLosses bridge = withOne();
        bridge.point(0, 99_900, 0);
        checks.due("the second at 100,001", bridge.point(0, 100_001, 0), TendonLosses.BAD);
        checks.due("the second at 100,000", bridge.point(0, 100_000, 0), 2);
        checks.due("the third at 100,100", bridge.point(0, 100_100, 0), TendonLosses.BAD);
        TendonLosses noRoom = withOne();
        noRoom.point(0, 99_901, 0);
        checks.due("no room, at 100,000", noRoom.point(0, 100_000, 0), TendonLosses.BAD);
        checks.due("no room, at 100,001", noRoom.point(0, 100_001, 0), TendonLosses.BAD);
    }

    private static void risingBy100(Checks checks) {
        checks.sentence(" rising by 100 at least");
        TendonLosses bridge = withOne();
        bridge.point(0, 500, 0);
        int[] wrong = {599, 501, 500, 499, 400, 0, Bridges.LEAST_INT, Bridges.LEAST_INT + 500, Bridges.MOST_INT};
        for (int x : wrong) {
            checks.due("the next at " + x, bridge.point(0, x, 0), TendonLosses.BAD);
        }
        checks.due("the next at 600", bridge.point(0, 600, 0), 2);
        checks.due("the one behind at 699", bridge.point(0, 699, 0), TendonLosses.BAD);
        checks.due("the one behind at 701", bridge.point(0, 701, 0), 3);
        bridge.tendon(500);
        checks.due("another tendon begins where it likes", bridge.point(1, 0, 0), 1);
    }

    private static void placesInY(Checks checks) {
        checks.sentence(", y (millimetres, - 3,000 .. 3,000)");
        int[] wrong = {3001, -3001, Bridges.LEAST_INT, Bridges.MOST_INT, 65_536};
        for (int y : wrong) {
            checks.due("the first at y " + y, withOne().point(0, 0, y), TendonLosses.BAD);
        }
        TendonLosses bridge = withOne();
        checks.due("y 3,000", bridge.point(0, 0, 3000), 1);
        checks.due("y 3,001", bridge.point(0, 100, 3001), TendonLosses.BAD);
        checks.due("y - 3,001", bridge.point(0, 100, -3001), TendonLosses.BAD);
        checks.due("y - 3,000", bridge.point(0, 100, -3000), 2);
        checks.due("slope between both", bridge.piece(0, 0, 1), -60_000);
    }

    private static void areas(Checks checks) {
        checks.sentence(", and an AREA (square millimetres, 50 .. 10,000).");
        TendonLosses bridge = new TendonLosses();
        bridge.friction(0, 0);
        checks.due("tendon(49)", bridge.tendon(49), TendonLosses.BAD);
        checks.due("tendon(10001)", bridge.tendon(10_001), TendonLosses.BAD);
        Bridges.add(bridge, 50, 0, 0, 10_000, 0);
        Bridges.add(bridge, 10_000, 0, 0, 10_000, 0);
        // 2,000,000 * 10,000 * 1,000 / (2 * area * 195,000)
        checks.due("pull of 50 mm2", bridge.pull(0, 1, 1_000_000), 1_025_641);
        checks.due("pull of 10,000 mm2", bridge.pull(1, 1, 1_000_000), 5128);
    }

    private static void pieces(Checks checks) {
        checks.sentence("A PIECE goes from a point to the next one");
        TendonLosses bridge = withOne();
        checks.due("a piece of no points", bridge.piece(0, 0, 0), TendonLosses.BAD);
        for (int points = 1; points <= 10; points++) {
            bridge.point(0, 100 * points * points, 0);
            checks.due("the last piece of " + points, bridge.piece(0, points - 2, 0),
                    points == 1 ? TendonLosses.BAD : 100 * (2 * points - 1));
            checks.due("one more piece of " + points, bridge.piece(0, points - 1, 0), TendonLosses.BAD);
        }
    }

    private static void lengths(Checks checks) {
        checks.sentence("; its LENGTH is the root of the sum of the squares of its differences, cut off");
        // 100 * 100 + 32 * 32 is one less than 105 * 105; 99,992 and 5,816 fall short of 100,161 by as much.
        int[][] known = {{100, 0, 100}, {100, 1, 100}, {100, 32, 104}, {100, 6000, 6000}, {300, 400, 500},
            {99_910, 6000, 100_090}, {99_992, 5816, 100_160}, {100_000, 0, 100_000}, {100_000, 447, 100_000},
            {100_000, 448, 100_001}, {100_000, 6000, 100_179}};
        for (int[] three : known) {
            dueLength(checks, three[0], three[1], three[2]);
        }
        for (int width = 100; width <= 3000; width += 29) {
            int height = width % 97;
            long square = (long) width * width + (long) height * height;
            long root = (long) Math.sqrt(square);
            checks.due("the root itself", root * root <= square && (root + 1) * (root + 1) > square, true);
            dueLength(checks, width, height, (int) root);
        }
    }

    private static void dueLength(Checks checks, int width, int height, int length) {
        TendonLosses up = new TendonLosses();
        Bridges.add(up, 500, 0, -3000, width, height - 3000);
        checks.due("length of " + width + " and " + height, up.piece(0, 0, 0), length);
        TendonLosses down = new TendonLosses();
        Bridges.add(down, 500, 0, 3000, width, 3000 - height);
        checks.due("length of " + width + " and - " + height, down.piece(0, 0, 0), length);
    }

    private static void slopes(Checks checks) {
        checks.sentence("; its SLOPE 1,000 times its difference of y by that of x, cut off towards 0.");
        int[][] known = {{1000, 0, 0}, {1000, 1, 1}, {1001, 1, 0}, {999, 1, 1}, {501, 1, 1}, {500, 1, 2},
            {300, 400, 1333}, {100, 6000, 60_000}, {100_000, 6000, 60}, {100_000, 5999, 59}, {100_000, 99, 0},
            {100_000, 100, 1}};
        for (int[] three : known) {
            TendonLosses up = new TendonLosses();
            Bridges.add(up, 500, 0, -3000, three[0], three[1] - 3000);
            checks.due("slope of " + three[1] + " by " + three[0], up.piece(0, 0, 1), three[2]);
            TendonLosses down = new TendonLosses();
            Bridges.add(down, 500, 0, 3000, three[0], 3000 - three[1]);
            checks.due("slope of - " + three[1] + " by " + three[0], down.piece(0, 0, 1), -three[2]);
        }
    }

    private static void turns(Checks checks) {
        checks.sentence("A point between two pieces has a TURN: how far their slopes lie apart.");
        TendonLosses bridge = new TendonLosses();
        // Slopes 60,000, - 60,000, 0, 0, 1 (of 1.4), - 1 (of - 1.4), 60.
        Bridges.add(bridge, 500, 0, -3000, 100, 3000, 200, -3000, 300, -3000, 400, -3000, 1100, -2999,
                1800, -3000, 100_000, 3000);
        int[] turns = {120_000, 60_000, 0, 1, 2, 62, 0};
        for (int piece = 0; piece < turns.length; piece++) {
            checks.due("turn behind " + piece, bridge.piece(0, piece, 2), turns[piece]);
        }
    }
}
