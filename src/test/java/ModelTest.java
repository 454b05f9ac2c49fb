/** Long runs of calls, ordinary and wrong ones mixed, against the plain model. */
public final class ModelTest {
    private static final int RUNS = 300;
    private static final int CALLS = 512;

    private final Checks checks;
    private final TendonLosses real = new TendonLosses();
    private final PlainModel model = new PlainModel();
    private final int run;
    private final int[] lastX = new int[6];
    private long seed;

    private ModelTest(Checks checks, int run) {
        this.checks = checks;
        this.run = run;
        seed = run * 7919L + 12345;
    }

    public static void main(String[] args) {
        Checks checks = new Checks();
        for (int run = 0; run < RUNS; run++) {
            new ModelTest(checks, run).go();
        }
        checks.finish();
    }

    /** A row of numbers that is the same in every run of the test. */
    private int below(int bound) {
        seed = seed * 6364136223846793005L + 1442695040888963407L;
        return (int) Long.remainderUnsigned(seed >>> 20, bound);
    }

    private int between(int least, int most) {
        return least + below(most - least + 1);
    }

    /** Mostly a number of the range, now and then its edges or one just outside. */
    private int about(int least, int most) {
        switch (below(16)) {
            case 0: return least;
            case 1: return most;
            case 2: return least - 1;
            case 3: return most + 1;
            default: return between(least, most);
        }
    }

    private int someTendon() {
        return below(20) == 0 ? between(-1, 6) : below(Math.max(1, real.count(0)));
    }

    private void go() {
        int tendons = between(1, 6);
        for (int i = 0; i < tendons; i++) {
            int area = run % 3 == 0 ? between(50, 60) : between(50, 10_000);
            due("tendon", real.tendon(area), model.tendon(area));
            int points = between(2, 10);
            for (int p = 0; p < points; p++) {
                addPoint(i);
            }
        }
        // What has been asked above and below stays under the document's 512 calls.
        int left = CALLS - tendons * 11 - 80;
        for (int i = 0; i < left / 3; i++) {
            if (below(3) == 0) {
                change();
            } else {
                ask();
            }
        }
        for (int tendon = 0; tendon < tendons; tendon++) {
            for (int p = 0; p < 10; p++) {
                due("force at the end", real.force(tendon, p), model.force(tendon, p));
            }
        }
    }

    private void addPoint(int tendon) {
        int stride = below(4) == 0 ? between(99, 101) : below(3) == 0 ? between(100, 800) : between(1000, 10_000);
        int row = Math.max(0, Math.min(5, tendon));
        int x = lastX[row] + stride;
        int y = below(3) == 0 ? about(-3000, 3000) : between(-300, 300);
        int got = real.point(tendon, x, y);
        due("point(" + tendon + ", " + x + ", " + y + ")", got, model.point(tendon, x, y));
        if (got > 0) {
            lastX[row] = x;
        }
    }

    private int somePull() {
        switch (below(4)) {
            case 0: return about(1, 10_000_000);
            case 1: return between(100_000, 2_000_000);
            default: return about(1, 3000);
        }
    }

    private void change() {
        int tendon = someTendon();
        switch (below(9)) {
            case 0:
            case 1:
                int from = about(1, 3);
                int force = somePull();
                due("pull(" + tendon + ", " + from + ", " + force + ")", real.pull(tendon, from, force),
                        model.pull(tendon, from, force));
                break;
            case 2:
            case 3:
            case 4:
                due("lock(" + tendon + ")", real.lock(tendon), model.lock(tendon));
                break;
            case 5:
                int rough = below(2) == 0 ? about(0, 1000) : between(0, 20);
                int mu = about(0, 500);
                due("friction", real.friction(rough, mu), model.friction(rough, mu));
                break;
            case 6:
                int slip = below(2) == 0 ? about(0, 20_000) : between(0, 200);
                int share = about(0, 100);
                int fade = about(0, 1000);
                due("losses", real.losses(slip, share, fade), model.losses(slip, share, fade));
                break;
            case 7:
                int many = below(4) == 0 ? about(1, 30) : between(1, 5);
                due("days(" + many + ")", real.days(many), model.days(many));
                break;
            default:
                if (below(2) == 0) {
                    due("cut(" + tendon + ")", real.cut(tendon), model.cut(tendon));
                } else {
                    addPoint(tendon);
                }
        }
    }

    private void ask() {
        int tendon = someTendon();
        switch (below(9)) {
            case 0:
                int point = about(0, 9);
                due("force(" + tendon + ", " + point + ")", real.force(tendon, point), model.force(tendon, point));
                break;
            case 1:
                int x = about(0, Math.max(100, lastX[Math.max(0, Math.min(5, tendon))]));
                due("at(" + tendon + ", " + x + ")", real.at(tendon, x), model.at(tendon, x));
                break;
            case 2:
                due("longer(" + tendon + ")", real.longer(tendon), model.longer(tendon));
                break;
            case 3:
                int piece = about(0, 8);
                int kind = about(0, 2);
                due("piece", real.piece(tendon, piece, kind), model.piece(tendon, piece, kind));
                break;
            case 4:
                int place = about(0, 9);
                due("presses", real.presses(tendon, place), model.presses(tendon, place));
                break;
            case 5:
                int other = someTendon();
                int apart = below(2) == 0 ? about(0, 1000) : between(0, 20);
                due("clash", real.clash(tendon, other, apart), model.clash(tendon, other, apart));
                break;
            case 6:
                int k = about(0, 5);
                due("locked(" + k + ")", real.locked(k), model.locked(k));
                break;
            case 7:
                int from = about(1, 3);
                int step = below(2) == 0 ? about(1, 200_000) : between(1, 100);
                int least = below(2) == 0 ? between(0, 5000) : between(0, 5_000_000);
                due("wanted(" + tendon + ", " + from + ", " + step + ", " + least + ")",
                        real.wanted(tendon, from, step, least), model.wanted(tendon, from, step, least));
                break;
            default:
                int what = about(0, 4);
                due("count(" + what + ")", real.count(what), model.count(what));
        }
    }

    private void due(String call, int got, int want) {
        checks.due("run " + run + ": " + call, got, want);
    }

    private void due(String call, boolean got, boolean want) {
        checks.due("run " + run + ": " + call, got, want);
    }
}
