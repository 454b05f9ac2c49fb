import java.util.function.Supplier;

/** Calls that must change nothing: refused ones, and questions. Each is asked of a bridge of its own. */
final class Refusals {
    /** A call with an answer; booleans are 1 and 0. */
    interface Call {
        long on(TendonLosses bridge);
    }

    /** A call that answers whether. */
    interface Whether {
        boolean on(TendonLosses bridge);
    }

    private final Checks checks;
    private final Supplier<TendonLosses> made;

    Refusals(Checks checks, Supplier<TendonLosses> made) {
        this.checks = checks;
        this.made = made;
    }

    /** The call answers that, and the bridge is behind it like one that was never asked. */
    void changesNothing(String call, Call asked, long answer) {
        TendonLosses bridge = made.get();
        checks.due(call, asked.on(bridge), answer);
        checks.due("behind " + call, Fingerprint.of(bridge), Fingerprint.of(made.get()));
    }

    void bad(String call, Call refused) {
        changesNothing(call, refused, TendonLosses.BAD);
    }

    void none(String call, Call refused) {
        changesNothing(call, refused, Bridges.NONE);
    }

    void no(String call, Whether refused) {
        changesNothing(call, bridge -> refused.on(bridge) ? 1 : 0, 0);
    }

    void yes(String call, Whether asked) {
        changesNothing(call, bridge -> asked.on(bridge) ? 1 : 0, 1);
    }
}
