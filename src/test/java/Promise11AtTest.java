/** Promise 11: the force at a place between the ends. */
public final class Promise11AtTest {
    private static final int BEGINNING = 500;
    private static final int END = 3500;

    public static void main(String[] args) {
        Checks checks = new Checks("Promise 11: at");
        betweenItsEnds(checks);
        onTheStraightLine(checks);
        greatest(checks);
        noSuchOrNeither(checks);
        notBetweenItsEnds(checks);
        checks.finish();
    }

    /** Slopes 0, 100, - 100 and MU 500: 1,000 becomes 950, 855, 855; the other way 900, 855, 855. */
    private static TendonLosses bent() {
        TendonLosses bridge = new TendonLosses();
        bridge.friction(0, 500);
        Bridges.add(bridge, 1000, BEGINNING, 0, 1500, 0, 2500, 100, END, 0);
        return bridge;
    }

    private static void dueAll(Checks checks, TendonLosses bridge, int[][] pairs) {
        for (int[] pair : pairs) {
            checks.due("at(0, " + pair[0] + ")", bridge.at(0, pair[0]), pair[1]);
        }
    }

    private static void betweenItsEnds(Checks checks) {
        checks.sentence("The force of a tendon at a place x between its ends");
        TendonLosses bridge = bent();
        bridge.pull(0, 1, 1000);
        // At its points it is the force there.
        int[][] points = {{500, 1000}, {1500, 950}, {2500, 855}, {3500, 855}};
        dueAll(checks, bridge, points);
        bridge.lock(0);
        dueAll(checks, bridge, points);
    }

    private static void onTheStraightLine(Checks checks) {
        checks.sentence(": on the straight line between those of its points, the difference to the first of both"
                + " times how far it is from that by the piece's difference of x, cut off towards 0.");
        TendonLosses bridge = bent();
        bridge.pull(0, 1, 1000);
        // The difference is below 0: cutting off leaves more.
        int[][] falling = {{501, 1000}, {519, 1000}, {520, 999}, {539, 999}, {540, 998}, {1000, 975},
            {1499, 951}, {1501, 950}, {1510, 950}, {1511, 949}, {2499, 856}, {3000, 855}};
        dueAll(checks, bridge, falling);
        bridge.pull(0, 2, 1000);
        // The difference is above 0: cutting off leaves less.
        int[][] rising = {{1000, 855}, {1522, 855}, {1523, 856}, {2000, 877}, {2509, 900}, {2510, 901},
            {3499, 999}};
        dueAll(checks, bridge, rising);
    }

    private static void greatest(Checks checks) {
        TendonLosses bridge = new TendonLosses();
        bridge.friction(0, 500);
        // The turn of 120,000 takes all: ten million newtons fall to 0 over 99,800 mm.
        Bridges.add(bridge, 50, 0, 0, 99_800, -3000, 99_900, 3000, 100_000, -3000);
        bridge.pull(0, 1, 10_000_000);
        checks.due("at(0, 0)", bridge.at(0, 0), 10_000_000);
        checks.due("at(0, 49900)", bridge.at(0, 49_900), 5_000_000);
        checks.due("at(0, 99799)", bridge.at(0, 99_799), 101);
        checks.due("at(0, 99800)", bridge.at(0, 99_800), 0);
        checks.due("at(0, 100000)", bridge.at(0, 100_000), 0);
    }

    private static void noSuchOrNeither(Checks checks) {
        checks.sentence("BAD: as above");
        checks.due("at without tendons", new TendonLosses().at(0, 0), TendonLosses.BAD);
        Refusals refusals = new Refusals(checks, Bridges::mixed);
        for (int tendon : Bridges.NO_TENDONS) {
            refusals.bad("at(" + tendon + ", 0)", b -> b.at(tendon, 0));
        }
        refusals.bad("at of one that is neither", b -> b.at(0, 500));
        refusals.bad("at of one with one point", b -> b.at(4, 0));
        refusals.changesNothing("at of a pulled one", b -> b.at(1, 3000), 800_000);
        TendonLosses cut = Bridges.mixed();
        cut.cut(1);
        checks.due("at behind letting go", cut.at(1, 500), TendonLosses.BAD);
        cut.cut(2);
        checks.due("at behind cut", cut.at(2, 500), TendonLosses.BAD);
    }

    private static void notBetweenItsEnds(Checks checks) {
        checks.sentence("; x is not between its ends (which may be it).");
        TendonLosses bridge = bent();
        bridge.pull(0, 1, 1000);
        checks.due("at the beginning", bridge.at(0, BEGINNING), 1000);
        checks.due("at the end", bridge.at(0, END), 855);
        int[] outside = {BEGINNING - 1, END + 1, 0, -1, 100_000, 100_001, Bridges.LEAST_INT, Bridges.MOST_INT};
        for (int x : outside) {
            checks.due("at(0, " + x + ")", bridge.at(0, x), TendonLosses.BAD);
        }
        bridge.lock(0);
        checks.due("before a locked one", bridge.at(0, BEGINNING - 1), TendonLosses.BAD);
        checks.due("behind a locked one", bridge.at(0, END + 1), TendonLosses.BAD);
        Refusals refusals = new Refusals(checks, Bridges::mixed);
        refusals.bad("before a pulled one", b -> b.at(1, -1));
        refusals.bad("behind a pulled one", b -> b.at(1, 3001));
        outsideOfTenPoints(checks);
    }

    /** With ten points there is no room behind the last one that a search could run into unseen. */
    private static void outsideOfTenPoints(Checks checks) {
        int[] outside = {-1, 9001, 100_000, Bridges.LEAST_INT, Bridges.MOST_INT};
        for (int x : outside) {
            checks.due("at(1, " + x + ") of ten points", Bridges.full().at(1, x), TendonLosses.BAD);
            checks.due("at(5, " + x + ") of ten points", Bridges.full().at(5, x), TendonLosses.BAD);
        }
        checks.due("at the last of ten points", Bridges.full().at(1, 9000), Bridges.full().force(1, 9));
    }
}
