/** Promise 13: lengths, slopes and turns of pieces. How they are cut off is looked at in TermsPlacesTest. */
public final class Promise13PieceTest {
    public static void main(String[] args) {
        Checks checks = new Checks("Promise 13: piece");
        lengthAndSlope(checks);
        turnBehindIt(checks);
        noSuch(checks);
        checks.finish();
    }

    private static void duePiece(Checks checks, TendonLosses bridge, int piece, int... three) {
        for (int what = 0; what < three.length; what++) {
            checks.due("piece(0, " + piece + ", " + what + ")", bridge.piece(0, piece, what), three[what]);
        }
    }

    /** Differences 300/400, 300/- 400, 700/1, 700/- 1. */
    private static TendonLosses four() {
        TendonLosses bridge = new TendonLosses();
        Bridges.add(bridge, 500, 0, 0, 300, 400, 600, 0, 1300, 1, 2000, 0);
        return bridge;
    }

    private static void lengthAndSlope(Checks checks) {
        checks.sentence("A piece's length (0), slope (1)");
        TendonLosses bridge = four();
        duePiece(checks, bridge, 0, 500, 1333);
        duePiece(checks, bridge, 1, 500, -1333);
        duePiece(checks, bridge, 2, 700, 1);
        duePiece(checks, bridge, 3, 700, -1);
        bridge.pull(0, 1, 1000);
        duePiece(checks, bridge, 1, 500, -1333, 1334);
        bridge.lock(0);
        duePiece(checks, bridge, 1, 500, -1333, 1334);
    }

    private static void turnBehindIt(Checks checks) {
        checks.sentence("; the turn at a point behind it (2; 0 at an end).");
        TendonLosses bridge = four();
        duePiece(checks, bridge, 0, 500, 1333, 2666);
        duePiece(checks, bridge, 1, 500, -1333, 1334);
        duePiece(checks, bridge, 2, 700, 1, 2);
        duePiece(checks, bridge, 3, 700, -1, 0);
        TendonLosses growing = new TendonLosses();
        Bridges.add(growing, 500, 0, 0, 1000, 0);
        checks.due("turn at the end", growing.piece(0, 0, 2), 0);
        growing.point(0, 2000, 1000);
        checks.due("turn where the end was", growing.piece(0, 0, 2), 1000);
        checks.due("turn at the new end", growing.piece(0, 1, 2), 0);
    }

    private static void noSuch(Checks checks) {
        checks.sentence("BAD (slopes below 0 may be that, too): none such.");
        TendonLosses growing = new TendonLosses();
        checks.due("piece without tendons", growing.piece(0, 0, 0), TendonLosses.BAD);
        growing.tendon(500);
        checks.due("piece without points", growing.piece(0, 0, 0), TendonLosses.BAD);
        growing.point(0, 0, 0);
        checks.due("piece with one point", growing.piece(0, 0, 0), TendonLosses.BAD);
        growing.point(0, 1000, -1);
        checks.due("piece with two points", growing.piece(0, 0, 0), 1000);
        checks.due("a slope that is BAD, too", growing.piece(0, 0, 1), -1);
        checks.due("piece behind the last", growing.piece(0, 1, 0), TendonLosses.BAD);
        Refusals refusals = new Refusals(checks, Bridges::mixed);
        for (int tendon : Bridges.NO_TENDONS) {
            refusals.bad("piece(" + tendon + ", 0, 0)", b -> b.piece(tendon, 0, 0));
        }
        // Tendon 0 has the pieces 0 to 2.
        int[] noPieces = {3, 4, 9, 10, -1, Bridges.LEAST_INT, Bridges.MOST_INT};
        for (int piece : noPieces) {
            for (int what = 0; what <= 2; what++) {
                int kind = what;
                refusals.bad("piece(0, " + piece + ", " + what + ")", b -> b.piece(0, piece, kind));
            }
        }
        int[] noKinds = {3, -1, Bridges.LEAST_INT, Bridges.MOST_INT};
        for (int what : noKinds) {
            refusals.bad("piece(0, 0, " + what + ")", b -> b.piece(0, 0, what));
        }
        checks.due("the ninth of ten points", Bridges.full().piece(0, 8, 0), 1001);
        checks.due("behind the ninth", Bridges.full().piece(0, 9, 0), TendonLosses.BAD);
    }
}
