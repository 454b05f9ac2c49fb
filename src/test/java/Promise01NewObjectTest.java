import java.util.List;

/** Promise 1: what a new object is. The numbers that hold at first stand in 'Terms'. */
public final class Promise01NewObjectTest {
    public static void main(String[] args) {
        Checks checks = new Checks("Promise 1: A new object");
        nothingIsThere(checks);
        objectsAreApart(checks);
        checks.finish();
    }

    private static void nothingIsThere(Checks checks) {
        checks.sentence("No tendons; nothing is locked.");
        TendonLosses bridge = new TendonLosses();
        for (int what = 0; what <= 4; what++) {
            checks.due("count(" + what + ")", bridge.count(what), 0);
        }
        checks.due("locked(0)", bridge.locked(0), TendonLosses.BAD);
        checks.due("point(0, 0, 0)", bridge.point(0, 0, 0), TendonLosses.BAD);
        checks.due("pull(0, 1, 1)", bridge.pull(0, 1, 1), TendonLosses.BAD);
        checks.due("lock(0)", bridge.lock(0), TendonLosses.BAD);
        checks.due("cut(0)", bridge.cut(0), false);
        checks.due("force(0, 0)", bridge.force(0, 0), TendonLosses.BAD);
        checks.due("at(0, 0)", bridge.at(0, 0), TendonLosses.BAD);
        checks.due("longer(0)", bridge.longer(0), TendonLosses.BAD);
        checks.due("piece(0, 0, 0)", bridge.piece(0, 0, 0), TendonLosses.BAD);
        checks.due("presses(0, 0)", bridge.presses(0, 0), Bridges.NONE);
        checks.due("presses(0, 1)", bridge.presses(0, 1), Bridges.NONE);
        checks.due("clash(0, 1, 1000)", bridge.clash(0, 1, 1000), false);
        checks.due("wanted(0, 1, 1, 0)", bridge.wanted(0, 1, 1, 0), TendonLosses.BAD);
        checks.due("days(1)", bridge.days(1), 1);
        checks.due("BAD", TendonLosses.BAD, -1);
    }

    private static void objectsAreApart(Checks checks) {
        List<String> before = Fingerprint.of(withOneTendon());
        TendonLosses used = Bridges.full();
        checks.due("count(0) of a used one", used.count(0), 6);
        used.days(5);
        used.friction(0, 0);
        used.losses(20_000, 100, 1000);
        nothingIsThere(checks);
        checks.due("a new one behind a used one", Fingerprint.of(withOneTendon()), before);
        TendonLosses fresh = withOneTendon();
        fresh.pull(0, 1, 1_000_000);
        Bridges.dueForces(checks, fresh, 0, 1_000_000, 979_996, 940_793, 940_789);
        checks.due("lock without slip", fresh.lock(0), 0);
    }

    private static TendonLosses withOneTendon() {
        TendonLosses bridge = new TendonLosses();
        Bridges.addBent(bridge);
        return bridge;
    }
}
