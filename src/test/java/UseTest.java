/** How long an object can be used. */
public final class UseTest {
    public static void main(String[] args) {
        Checks checks = new Checks("What it is");
        checks.sentence("An object is used for at most 512 calls after it has been made");
        TendonLosses bridge = new TendonLosses();
        for (int call = 1; call <= 512; call++) {
            checks.due("call " + call + ", days(1000)", bridge.days(1000), 1000 * call);
        }
        lastCallsLock(checks);
        checks.finish();
    }

    /** The last of 512 calls, when all has been locked and cut over and over. */
    private static void lastCallsLock(Checks checks) {
        TendonLosses bridge = Bridges.plain();
        int calls = 5;
        bridge.losses(1000, 10, 3);
        calls++;
        while (calls + 3 <= 511) {
            checks.due("pull", bridge.pull(0, 1, 1_000_000), 51_282);
            checks.due("lock", bridge.lock(0), 1000);
            checks.due("cut", bridge.cut(0), true);
            calls += 3;
        }
        bridge.pull(0, 1, 1_000_000);
        checks.due("count(2), call " + (calls + 2), bridge.count(2), 1);
    }
}
