/** 'Terms', second part: how forces fall off along a tendon that is pulled. */
public final class TermsForcesTest {
    public static void main(String[] args) {
        Checks checks = new Checks("Terms");
        newtons(checks);
        overAPiece(checks);
        rangeOfRough(checks);
        cutOffOverAPiece(checks);
        atTheTurn(checks);
        rangeOfMu(checks);
        cutOffAtTheTurn(checks);
        notBelowZero(checks);
        behindItsTurn(checks);
        theOtherWayRound(checks);
        fromBoth(checks);
        checks.finish();
    }

    private static void dueForces(Checks checks, TendonLosses bridge, int from, int pull, int... forces) {
        bridge.pull(0, from, pull);
        Bridges.dueForces(checks, bridge, 0, forces);
    }

    private static TendonLosses with(int rough, int mu, int... places) {
        TendonLosses bridge = new TendonLosses();
        bridge.friction(rough, mu);
        Bridges.add(bridge, 1000, places);
        return bridge;
    }

    private static void newtons(Checks checks) {
        checks.sentence("FORCES are newtons.");
        TendonLosses bridge = with(0, 0, 0, 0, 10_000, 0);
        dueForces(checks, bridge, 1, 1, 1, 1);
        dueForces(checks, bridge, 1, 10_000_000, 10_000_000, 10_000_000);
    }

    private static void overAPiece(Checks checks) {
        checks.sentence("Along a tendon from its beginning a force F becomes (what it loses being cut off each"
                + " time, then taken from it), over a piece, F less F times ROUGH");
        // A hundredth of each: 999 loses 9.99, 990 loses 9.9, 981 loses 9.81.
        TendonLosses bridge = with(1000, 0, 0, 0, 10_000, 0, 20_000, 0, 30_000, 0);
        dueForces(checks, bridge, 1, 999, 999, 990, 981, 972);
        dueForces(checks, bridge, 1, 1000, 1000, 990, 981, 972);
        dueForces(checks, bridge, 1, 99, 99, 99, 99, 99);
        dueForces(checks, bridge, 1, 100, 100, 99, 99, 99);
    }

    private static void rangeOfRough(Checks checks) {
        checks.sentence("(0 .. 1,000; 5 at first)");
        // At first 100,000 mm take a two thousandth.
        TendonLosses first = new TendonLosses();
        Bridges.add(first, 1000, 0, 0, 100_000, 0);
        dueForces(checks, first, 1, 1999, 1999, 1999);
        dueForces(checks, first, 1, 2000, 2000, 1999);
        dueForces(checks, first, 1, 9999, 9999, 9995);
        checks.due("friction(-1, 0)", first.friction(-1, 0), false);
        checks.due("friction(1001, 0)", first.friction(1001, 0), false);
        dueForces(checks, first, 1, 10_000, 10_000, 9995);
        checks.due("friction(0, 0)", first.friction(0, 0), true);
        dueForces(checks, first, 1, 10_000_000, 10_000_000, 10_000_000);
        checks.due("friction(1, 0)", first.friction(1, 0), true);
        dueForces(checks, first, 1, 10_000, 10_000, 9999);
        checks.due("friction(1000, 0)", first.friction(1000, 0), true);
        dueForces(checks, first, 1, 10_000, 10_000, 9000);
    }

    private static void cutOffOverAPiece(Checks checks) {
        checks.sentence("times the length by 1,000,000,000, cut off");
        // 333,667 * 27 * 111 is 999,999,999, one too little.
        TendonLosses bridge = with(27, 0, 0, 0, 111, 0);
        dueForces(checks, bridge, 1, 333_667, 333_667, 333_667);
        dueForces(checks, bridge, 1, 333_668, 333_668, 333_667);
        // The greatest of all: 10,000,000 * 1,000 * 100,179.
        TendonLosses greatest = with(1000, 0, 0, -3000, 100_000, 3000);
        dueForces(checks, greatest, 1, 10_000_000, 10_000_000, 8_998_210);
        TendonLosses least = with(1000, 0, 0, 0, 100, 0);
        dueForces(checks, least, 1, 9999, 9999, 9999);
        dueForces(checks, least, 1, 10_000, 10_000, 9999);
    }

    private static void atTheTurn(Checks checks) {
        checks.sentence("; and then at the point behind it, if it is no end, less F (as it is there now) times MU");
        // Over the piece 1,000,000 loses a thousandth; the turn takes a twentieth of what is left then.
        TendonLosses bridge = new TendonLosses();
        bridge.friction(1000, 500);
        Bridges.addBent(bridge);
        dueForces(checks, bridge, 1, 1_000_000, 1_000_000, 949_050, 853_289, 852_433);
        // Behind the last piece, however steep it is, there is no turn; with two points there is none at all.
        TendonLosses steep = with(0, 500, 0, -3000, 100, 3000);
        dueForces(checks, steep, 1, 1000, 1000, 1000);
        dueForces(checks, steep, 2, 1000, 1000, 1000);
        dueForces(checks, steep, 3, 1000, 1000, 1000);
    }

    private static void rangeOfMu(Checks checks) {
        checks.sentence("(0 .. 500; 200 at first)");
        // At first a turn of 100 takes a fiftieth.
        TendonLosses first = new TendonLosses();
        Bridges.add(first, 1000, 0, 0, 1000, 0, 2000, 100);
        dueForces(checks, first, 1, 49, 49, 49, 49);
        dueForces(checks, first, 1, 50, 50, 49, 49);
        dueForces(checks, first, 1, 9999, 9999, 9800, 9800);
        checks.due("friction(0, -1)", first.friction(0, -1), false);
        checks.due("friction(0, 501)", first.friction(0, 501), false);
        dueForces(checks, first, 1, 10_000, 10_000, 9800, 9800);
        checks.due("friction(0, 0)", first.friction(0, 0), true);
        dueForces(checks, first, 1, 10_000_000, 10_000_000, 10_000_000, 10_000_000);
        checks.due("friction(0, 1)", first.friction(0, 1), true);
        dueForces(checks, first, 1, 10_000, 10_000, 9999, 9999);
        checks.due("friction(0, 500)", first.friction(0, 500), true);
        dueForces(checks, first, 1, 10_000, 10_000, 9500, 9500);
    }

    private static void cutOffAtTheTurn(Checks checks) {
        checks.sentence("times the turn by 1,000,000, cut off");
        // 1,001 * 27 * 37 is 999,999, one too little.
        TendonLosses bridge = with(0, 27, 0, 0, 111, 0, 1111, 37);
        dueForces(checks, bridge, 1, 1001, 1001, 1001, 1001);
        dueForces(checks, bridge, 1, 1002, 1002, 1001, 1001);
    }

    private static void notBelowZero(Checks checks) {
        checks.sentence(", but not below 0.");
        // Turns of 1,999, 2,000 and 2,001 times 500: all but a two thousandth, all, more than all.
        dueForces(checks, with(0, 500, 0, 0, 1000, 0, 2000, 1999), 1, 10_000, 10_000, 5, 5);
        dueForces(checks, with(0, 500, 0, 0, 1000, 0, 2000, 2000), 1, 10_000, 10_000, 0, 0);
        dueForces(checks, with(0, 500, 0, 0, 1000, 0, 2000, 2001), 1, 10_000, 10_000, 0, 0);
        // The greatest of all: 10,000,000 * 500 * 120,000; behind it there is nothing left to lose.
        TendonLosses steep = with(1000, 500, 0, -3000, 100, 3000, 200, -3000, 300, 3000);
        dueForces(checks, steep, 1, 10_000_000, 10_000_000, 0, 0, 0);
        dueForces(checks, steep, 2, 10_000_000, 0, 0, 0, 10_000_000);
    }

    private static void behindItsTurn(Checks checks) {
        checks.sentence("The force at a point is the one behind its turn.");
        TendonLosses bridge = new TendonLosses();
        bridge.friction(0, 500);
        Bridges.addBent(bridge);
        dueForces(checks, bridge, 1, 1_000_000, 1_000_000, 950_000, 855_000, 855_000);
        dueForces(checks, bridge, 2, 1_000_000, 855_000, 855_000, 900_000, 1_000_000);
    }

    private static void theOtherWayRound(Checks checks) {
        checks.sentence("From its end the same, the other way round.");
        TendonLosses bridge = with(1000, 500, 0, 0, 20_000, 0, 21_000, 100);
        // From the end a piece of 1,004 mm takes 1,004, the turn 49,949 of 998,996, 20,000 mm 18,980.
        dueForces(checks, bridge, 1, 1_000_000, 1_000_000, 931_000, 930_066);
        dueForces(checks, bridge, 2, 1_000_000, 930_067, 949_047, 1_000_000);
        TendonLosses mirrored = with(1000, 500, 0, 100, 1000, 0, 21_000, 0);
        dueForces(checks, mirrored, 1, 1_000_000, 1_000_000, 949_047, 930_067);
        dueForces(checks, mirrored, 2, 1_000_000, 930_066, 931_000, 1_000_000);
    }

    private static void fromBoth(Checks checks) {
        checks.sentence("PULLED from the beginning, the end, or both: each end that is pulled has the PULL there;"
                + " with both, the force at a point is the greater one of both.");
        TendonLosses bridge = new TendonLosses();
        bridge.friction(1000, 500);
        Bridges.addBent(bridge);
        dueForces(checks, bridge, 1, 1_000_000, 1_000_000, 949_050, 853_289, 852_433);
        dueForces(checks, bridge, 2, 1_000_000, 852_433, 853_286, 899_097, 1_000_000);
        dueForces(checks, bridge, 3, 1_000_000, 1_000_000, 949_050, 899_097, 1_000_000);
        TendonLosses steep = with(0, 500, 0, -3000, 100, 3000, 200, -3000);
        dueForces(checks, steep, 3, 10_000_000, 10_000_000, 0, 10_000_000);
        dueForces(checks, steep, 3, 1, 1, 0, 1);
    }
}
