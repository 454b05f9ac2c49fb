/** Promise 13: lengths, slopes and turns of pieces. */
public final class Promise13PieceTest {
    public static void main(String[] args) {
        Checks checks = new Checks();
        ordinary(checks);
        wrongOnes(checks);
        edges(checks);
        checks.finish();
    }

    private static void duePiece(Checks checks, TendonLosses bridge, int piece, int... three) {
        for (int what = 0; what < three.length; what++) {
            checks.due("piece(0, " + piece + ", " + what + ")", bridge.piece(0, piece, what), three[what]);
        }
    }

    private static void ordinary(Checks checks) {
        TendonLosses bridge = new TendonLosses();
        // Differences 300/400, 300/- 400, 700/1, 700/- 1.
        Bridges.add(bridge, 500, 0, 0, 300, 400, 600, 0, 1300, 1, 2000, 0);
        duePiece(checks, bridge, 0, 500, 1333, 2666);
        duePiece(checks, bridge, 1, 500, -1333, 1334);
        duePiece(checks, bridge, 2, 700, 1, 2);
        duePiece(checks, bridge, 3, 700, -1, 0);
        bridge.pull(0, 1, 1000);
        duePiece(checks, bridge, 1, 500, -1333, 1334);
        bridge.lock(0);
        duePiece(checks, bridge, 1, 500, -1333, 1334);
    }

    private static void wrongOnes(Checks checks) {
        TendonLosses bridge = new TendonLosses();
        checks.due("piece without tendons", bridge.piece(0, 0, 0), TendonLosses.BAD);
        bridge.tendon(500);
        checks.due("piece without points", bridge.piece(0, 0, 0), TendonLosses.BAD);
        bridge.point(0, 0, 0);
        checks.due("piece with one point", bridge.piece(0, 0, 0), TendonLosses.BAD);
        bridge.point(0, 1000, 0);
        checks.due("piece with two points", bridge.piece(0, 0, 0), 1000);
        checks.due("piece behind the last", bridge.piece(0, 1, 0), TendonLosses.BAD);
        checks.due("turn at an end", bridge.piece(0, 0, 2), 0);
        bridge.point(0, 2000, 1000);
        checks.due("turn where the end was", bridge.piece(0, 0, 2), 1000);
        for (int odd : Bridges.ODD_NUMBERS) {
            checks.due("piece(" + odd + ", 0, 0)", bridge.piece(odd, 0, 0), TendonLosses.BAD);
            checks.due("piece(0, " + odd + ", 0)", bridge.piece(0, odd, 0), TendonLosses.BAD);
            checks.due("piece(0, 0, " + odd + ")", bridge.piece(0, 0, odd), TendonLosses.BAD);
        }
        checks.due("piece(0, 0, 3)", bridge.piece(0, 0, 3), TendonLosses.BAD);
    }

    private static void edges(Checks checks) {
        TendonLosses bridge = new TendonLosses();
        Bridges.add(bridge, 500, 0, -3000, 100, 3000, 200, -3000, 100_000, 3000);
        duePiece(checks, bridge, 0, 6000, 60_000, 120_000);
        duePiece(checks, bridge, 1, 6000, -60_000, 60_060);
        duePiece(checks, bridge, 2, 99_980, 60, 0);
        // Roots on both sides of a square: 120 * 120 + 22 * 22 is 122 * 122; 121 falls short by 1.
        TendonLosses other = new TendonLosses();
        Bridges.add(other, 500, 0, 0, 120, 22, 240, 43, 100_000, 43);
        duePiece(checks, other, 0, 122, 183, 8);
        duePiece(checks, other, 1, 121, 175, 175);
        duePiece(checks, other, 2, 99_760, 0, 0);
        for (int width = 100; width <= 3000; width += 29) {
            lengthIsTheRoot(checks, width, width % 97);
        }
    }

    private static void lengthIsTheRoot(Checks checks, int width, int height) {
        TendonLosses bridge = new TendonLosses();
        Bridges.add(bridge, 500, 0, 0, width, height);
        long length = bridge.piece(0, 0, 0);
        long square = (long) width * width + (long) height * height;
        checks.due("the square of the length is not above", length * length <= square, true);
        checks.due("the next square is above", (length + 1) * (length + 1) > square, true);
    }
}
