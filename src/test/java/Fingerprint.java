import java.util.ArrayList;
import java.util.List;

/**
 * What a bridge answers when it is asked for all that it holds, and what then becomes of it when its
 * tendons are locked, pulled and left for days: that brings out ROUGH, MU, SLIP, SHARE and FADE, and
 * whether there is room for more. Two bridges that are alike have the same. It uses the bridge up,
 * with some 270 calls at the most.
 */
final class Fingerprint {
    private final TendonLosses bridge;
    private final List<String> rows = new ArrayList<>();

    private Fingerprint(TendonLosses bridge) {
        this.bridge = bridge;
    }

    static List<String> of(TendonLosses bridge) {
        Fingerprint print = new Fingerprint(bridge);
        print.askCounts();
        int tendons = bridge.count(0);
        for (int tendon = 0; tendon < tendons; tendon++) {
            print.askPieces(tendon);
            print.askForces(tendon);
        }
        for (int tendon = 0; tendon < tendons; tendon++) {
            print.row("then lock", tendon, 0, bridge.lock(tendon));
        }
        print.row("then days", 2, 0, bridge.days(2));
        for (int tendon = 0; tendon < tendons; tendon++) {
            print.row("then force", tendon, 0, bridge.force(tendon, 0));
            print.row("then force", tendon, 1, bridge.force(tendon, 1));
        }
        for (int tendon = 0; tendon < tendons; tendon++) {
            print.pullAnew(tendon);
        }
        print.row("then tendon", 500, 0, bridge.tendon(500));
        return print.rows;
    }

    private void row(String call, int one, int other, long answer) {
        rows.add(call + "(" + one + ", " + other + ") answered " + answer);
    }

    private void askCounts() {
        for (int what = 0; what <= 4; what++) {
            row("count", what, 0, bridge.count(what));
        }
        for (int k = 0; k < 6; k++) {
            row("locked", k, 0, bridge.locked(k));
        }
    }

    private void askPieces(int tendon) {
        int length = 0;
        for (int piece = 0; length != TendonLosses.BAD && piece < 10; piece++) {
            length = bridge.piece(tendon, piece, 0);
            row("length", tendon, piece, length);
            row("slope", tendon, piece, bridge.piece(tendon, piece, 1));
        }
    }

    private void askForces(int tendon) {
        int force = 0;
        for (int p = 0; force != TendonLosses.BAD && p < 10; p++) {
            force = bridge.force(tendon, p);
            row("force", tendon, p, force);
        }
    }

    private void pullAnew(int tendon) {
        row("then cut", tendon, 0, bridge.cut(tendon) ? 1 : 0);
        row("then pull", tendon, 2, bridge.pull(tendon, 2, 900_000));
        row("then force", tendon, 1, bridge.force(tendon, 1));
        row("then cut", tendon, 0, bridge.cut(tendon) ? 1 : 0);
        row("then point", tendon, 0, bridge.point(tendon, 100_000, 0));
    }
}
