/** 'What it is': each of its words once, with numbers that are reckoned by hand; and how long it can be used. */
public final class WhatItIsTest {
    public static void main(String[] args) {
        Checks checks = new Checks("What it is");
        wholeNumbers(checks);
        rowsOfPoints(checks);
        forceAlongThem(checks);
        slipWalkedBack(checks);
        laterAndEarlierOnes(checks);
        daysGoBy(checks);
        howLong(checks);
        loads(checks);
        ductsThatClash(checks);
        lastCallOfAnObject(checks);
        laterCalls(checks);
        checks.finish();
    }

    private static void wholeNumbers(Checks checks) {
        checks.sentence("Tendons in a bridge, in whole numbers");
        TendonLosses bridge = Bridges.plain();
        checks.due("tendons", bridge.count(0), 1);
        // A newton over 10,000 mm is a part of a micrometre, and cut off.
        checks.due("pull with a newton", bridge.pull(0, 1, 1), 0);
        checks.due("pull with 38 newtons", bridge.pull(0, 1, 38), 1);
    }

    private static void rowsOfPoints(Checks checks) {
        checks.sentence(": rows of points in ducts");
        TendonLosses bridge = new TendonLosses();
        int bent = Bridges.addBent(bridge);
        checks.due("points", bridge.count(4), 4);
        checks.due("the last piece's length", bridge.piece(bent, 2, 0), 1004);
    }

    private static void forceAlongThem(Checks checks) {
        checks.sentence(", the force along them with friction when they are pulled from one end or from both");
        TendonLosses bridge = Bridges.plain();
        bridge.friction(1000, 0);
        bridge.pull(0, 1, 1000);
        Bridges.dueForces(checks, bridge, 0, 1000, 990);
        bridge.pull(0, 2, 1000);
        Bridges.dueForces(checks, bridge, 0, 990, 1000);
        bridge.pull(0, 3, 1000);
        Bridges.dueForces(checks, bridge, 0, 1000, 1000);
    }

    private static void slipWalkedBack(Checks checks) {
        checks.sentence(", slip at the anchors walked back");
        TendonLosses bridge = Bridges.plain();
        bridge.losses(10, 0, 0);
        bridge.pull(0, 1, 1000);
        checks.due("lock", bridge.lock(0), 10);
        Bridges.dueForces(checks, bridge, 0, 805, 805);
    }

    private static void laterAndEarlierOnes(Checks checks) {
        checks.sentence(", what later ones take from earlier ones");
        TendonLosses bridge = Bridges.plain();
        int later = Bridges.addStraight(bridge);
        bridge.losses(0, 100, 0);
        bridge.pull(0, 1, 1000);
        bridge.lock(0);
        bridge.pull(later, 1, 500);
        bridge.lock(later);
        Bridges.dueForces(checks, bridge, 0, 950, 950);
        Bridges.dueForces(checks, bridge, later, 500, 500);
    }

    private static void daysGoBy(Checks checks) {
        checks.sentence(", what goes with days");
        TendonLosses bridge = Bridges.plain();
        bridge.losses(0, 0, 1000);
        bridge.pull(0, 1, 2000);
        bridge.lock(0);
        checks.due("days(2)", bridge.days(2), 2);
        Bridges.dueForces(checks, bridge, 0, 1997, 1997);
    }

    private static void howLong(Checks checks) {
        checks.sentence(", how long they become");
        TendonLosses bridge = Bridges.plain();
        bridge.pull(0, 1, 19_500);
        checks.due("longer", bridge.longer(0), 1000);
    }

    private static void loads(Checks checks) {
        checks.sentence(", loads that they make");
        TendonLosses bridge = Bridges.plain();
        int bent = Bridges.addBent(bridge);
        bridge.pull(bent, 1, 1000);
        checks.due("presses where it turns up", bridge.presses(bent, 1), 100);
        checks.due("presses where it turns down", bridge.presses(bent, 2), -200);
    }

    private static void ductsThatClash(Checks checks) {
        checks.sentence(", ducts that clash.");
        TendonLosses bridge = new TendonLosses();
        Bridges.add(bridge, 500, 0, 0, 1000, 0);
        Bridges.add(bridge, 500, 0, 40, 1000, 40);
        checks.due("clash(0, 1, 40)", bridge.clash(0, 1, 40), false);
        checks.due("clash(0, 1, 41)", bridge.clash(0, 1, 41), true);
    }

    private static void lastCallOfAnObject(Checks checks) {
        checks.sentence("An object is used for at most 512 calls after it has been made");
        TendonLosses bridge = new TendonLosses();
        for (int call = 1; call <= 512; call++) {
            checks.due("call " + call + ", days(1000)", bridge.days(1000), 1000 * call);
        }
        lastCallsLock(checks);
    }

    /** The last of 512 calls, when all has been locked and cut over and over. */
    private static void lastCallsLock(Checks checks) {
        TendonLosses bridge = Bridges.plain();
        int calls = 5;
        bridge.losses(1000, 10, 3);
        calls++;
        while (calls + 3 <= 511) {
            checks.due("pull", bridge.pull(0, 1, 1_000_000), 51_282);
            checks.due("lock", bridge.lock(0), 1000);
            checks.due("cut", bridge.cut(0), true);
            calls += 3;
        }
        bridge.pull(0, 1, 1_000_000);
        checks.due("count(2), call " + (calls + 2), bridge.count(2), 1);
    }

    /** Their answers are free, but LANGUAGE.md lets no call throw: the days wrap around, and it goes on. */
    private static void laterCalls(Checks checks) {
        checks.sentence("; what later calls answer is free.");
        TendonLosses bridge = Bridges.mixed();
        bridge.cut(2);
        bridge.cut(3);
        for (int call = 0; call < 2_200_000; call++) {
            bridge.days(1000);
        }
        int rows = Fingerprint.of(bridge).size();
        checks.due("rows of answers behind the 512th call", rows > 0, true);
    }
}
