/** Promise 11: the force at a place between the ends. */
public final class Promise11AtTest {
    public static void main(String[] args) {
        Checks checks = new Checks();
        TendonLosses bridge = new TendonLosses();
        checks.due("at without tendons", bridge.at(0, 0), TendonLosses.BAD);
        bridge.friction(0, 500);
        // Slopes 0, 100, - 100: 1,000 becomes 950, 855, 855.
        int bent = Bridges.add(bridge, 1000, 500, 0, 1500, 0, 2500, 100, 3500, 0);
        checks.due("at of one not pulled", bridge.at(bent, 600), TendonLosses.BAD);
        bridge.pull(bent, 1, 1000);
        int[][] falling = {{500, 1000}, {519, 1000}, {520, 999}, {539, 999}, {540, 998}, {1000, 975},
            {1499, 951}, {1500, 950}, {1510, 950}, {1511, 949}, {2499, 856}, {2500, 855}, {3000, 855},
            {3500, 855}};
        dueAll(checks, bridge, bent, falling);
        bridge.pull(bent, 2, 1000);
        // 1,000 becomes 900, 855, 855: differences above 0 are cut off downwards.
        int[][] rising = {{500, 855}, {1500, 855}, {1522, 855}, {1523, 856}, {2000, 877}, {2500, 900},
            {2509, 900}, {2510, 901}, {3499, 999}, {3500, 1000}};
        dueAll(checks, bridge, bent, rising);
        int[] outside = {499, 3501, 0, -1, 100_001, Integer.MIN_VALUE, Integer.MAX_VALUE};
        for (int x : outside) {
            checks.due("at(" + bent + ", " + x + ")", bridge.at(bent, x), TendonLosses.BAD);
        }
        for (int odd : Bridges.ODD_NUMBERS) {
            checks.due("at(" + odd + ", 600)", bridge.at(odd, 600), TendonLosses.BAD);
        }
        bridge.lock(bent);
        dueAll(checks, bridge, bent, rising);
        bridge.cut(bent);
        checks.due("at behind cut", bridge.at(bent, 600), TendonLosses.BAD);
        checks.finish();
    }

    private static void dueAll(Checks checks, TendonLosses bridge, int tendon, int[][] pairs) {
        for (int[] pair : pairs) {
            checks.due("at(" + tendon + ", " + pair[0] + ")", bridge.at(tendon, pair[0]), pair[1]);
        }
    }
}
