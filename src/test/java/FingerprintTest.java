import java.util.List;

/** A fingerprint that did not change with its bridge would let every refused call pass. */
public final class FingerprintTest {
    private static final Refusals.Call[] CHANGES = {
        b -> b.tendon(500), b -> b.point(0, 50_000, 0), b -> b.point(4, 50_000, 0),
        b -> b.friction(71, 150) ? 1 : 0, b -> b.friction(70, 151) ? 1 : 0,
        b -> b.losses(31, 20, 500) ? 1 : 0, b -> b.losses(30, 21, 500) ? 1 : 0,
        b -> b.losses(30, 20, 501) ? 1 : 0, b -> b.pull(0, 1, 1), b -> b.pull(1, 3, 799_999),
        b -> b.pull(1, 1, 800_000), b -> b.lock(1), b -> b.cut(1) ? 1 : 0, b -> b.cut(2) ? 1 : 0,
        b -> b.cut(3) ? 1 : 0, b -> b.days(1)};

    public static void main(String[] args) {
        Checks checks = new Checks();
        List<String> unchanged = Fingerprint.of(Bridges.mixed());
        for (int i = 0; i < CHANGES.length; i++) {
            TendonLosses bridge = Bridges.mixed();
            checks.due("change " + i + " is not refused", CHANGES[i].on(bridge) >= 0, true);
            checks.due("change " + i + " can be seen", Fingerprint.of(bridge).equals(unchanged), false);
        }
        checks.due("without a change", Fingerprint.of(Bridges.mixed()), unchanged);
        checks.finish();
    }
}
