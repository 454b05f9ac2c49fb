/** Promise 9: days go by. What fades is looked at in TermsLockedTest. */
public final class Promise09DaysTest {
    public static void main(String[] args) {
        Checks checks = new Checks("Promise 9: days");
        daysGoBy(checks);
        howManyInAll(checks);
        noSuch(checks);
        checks.finish();
    }

    private static void daysGoBy(Checks checks) {
        checks.sentence("Days go by, 1 .. 1,000");
        TendonLosses bridge = Bridges.plain();
        bridge.losses(0, 0, 1000);
        bridge.pull(0, 1, 1_000_000);
        bridge.lock(0);
        checks.due("days(1)", bridge.days(1), 1);
        Bridges.dueForces(checks, bridge, 0, 999_000, 999_000);
        checks.due("days(2)", bridge.days(2), 3);
        Bridges.dueForces(checks, bridge, 0, 997_003, 997_003);
        TendonLosses once = Bridges.plain();
        TendonLosses often = Bridges.plain();
        once.losses(0, 0, 777);
        often.losses(0, 0, 777);
        once.pull(0, 1, 10_000_000);
        often.pull(0, 1, 10_000_000);
        once.lock(0);
        often.lock(0);
        once.days(1000);
        for (int i = 0; i < 8; i++) {
            often.days(125);
        }
        checks.due("a thousand days at once and in parts", once.force(0, 0), often.force(0, 0));
    }

    private static void howManyInAll(Checks checks) {
        checks.sentence(": how many there were in all.");
        TendonLosses bridge = new TendonLosses();
        checks.due("days(1)", bridge.days(1), 1);
        checks.due("days(1000)", bridge.days(1000), 1001);
        checks.due("days(0)", bridge.days(0), TendonLosses.BAD);
        checks.due("days(999)", bridge.days(999), 2000);
        checks.due("count(3)", bridge.count(3), 2000);
    }

    private static void noSuch(Checks checks) {
        checks.sentence("BAD: none such.");
        Refusals refusals = new Refusals(checks, Bridges::mixed);
        int[] wrong = {0, -1, 1001, -1000, Bridges.LEAST_INT, Bridges.MOST_INT, 65_537};
        for (int many : wrong) {
            refusals.bad("days(" + many + ")", b -> b.days(many));
        }
    }
}
