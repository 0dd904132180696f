import java.util.Random;

/** The same random calls to SailLoft and to NaiveLoft; the seeds are fixed, so runs repeat. */
public final class RandomRunsTest {
    private static final int RUNS = 400;
    private static final int CALLS = 500;

    private final Random random;
    private final Due due;
    private final SailLoft x = new SailLoft();
    private final NaiveLoft n = new NaiveLoft();
    private final int style;

    private RandomRunsTest(int seed, Due due) {
        random = new Random(seed);
        this.due = due;
        style = seed % 4;
    }

    public static void main(String[] args) {
        Due due = new Due();
        for (int run = 0; run < RUNS; run++) {
            due.about("random run " + run);
            RandomRunsTest test = new RandomRunsTest(run, due);
            for (int call = 0; call < CALLS; call++) {
                test.anyCall();
            }
            test.compareAll();
        }
        due.end();
    }

    private int between(int low, int high) {
        return low + random.nextInt(high - low + 1);
    }

    /** Mostly one of low to high, at times one of its ends, at times just outside or far off. */
    private int about(int low, int high) {
        int dice = random.nextInt(60);
        if (dice == 0) {
            return low - 1;
        }
        if (dice == 1) {
            return high + 1;
        }
        if (dice == 2) {
            return random.nextInt();
        }
        if (dice == 3) {
            return random.nextBoolean() ? Integer.MAX_VALUE : Integer.MIN_VALUE;
        }
        if (dice < 8) {
            return low;
        }
        if (dice < 12) {
            return high;
        }
        return high < low ? low : between(low, high);
    }

    private int bolt() {
        return about(0, Math.max(0, n.count(0) - 1));
    }

    private int sail() {
        return about(0, Math.max(0, n.count(1) - 1));
    }

    private int height(int sail) {
        return Math.max(1, n.told(sail, 8));
    }

    private int piece(int sail) {
        return about(0, Math.max(0, n.told(sail, 1) + n.told(sail, 2) - 1));
    }

    private int worn() {
        return about(0, 100);
    }

    private int grams() {
        int dice = random.nextInt(8);
        if (dice == 0) {
            return random.nextInt();
        }
        float most = dice < 3 ? 1000f : dice < 5 ? 1f : 20f;
        return Float.floatToIntBits(random.nextFloat() * most);
    }

    private void check(String call, long got, long want) {
        due.is(call, got, want);
    }

    private void check(String call, boolean got, boolean want) {
        due.is(call, got ? 1 : 0, want ? 1 : 0);
    }

    private void anyCall() {
        int dice = random.nextInt(100);
        if (dice < 12) {
            makeSomething();
        } else if (dice < 30) {
            shape();
        } else if (dice < 52) {
            layOrLift();
        } else if (dice < 66) {
            sailIt();
        } else if (dice < (style == 0 ? 84 : 72)) {
            check("undo", x.undo(), n.undo());
        } else if (dice < 75) {
            int sail = sail();
            check("take", x.take(sail), n.take(sail));
        } else {
            ask();
        }
        if (random.nextInt(25) == 0) {
            compareAll();
        }
    }

    private void makeSomething() {
        if (random.nextBoolean()) {
            int width = about(2, 20);
            int length = about(1, 200);
            int grams = grams();
            check("bolt", x.bolt(width, length, grams), n.bolt(width, length, grams));
            return;
        }
        int wide = style == 1 ? 500 : style == 2 ? 6 : 60;
        int footLeft = about(-wide, 0);
        int footRight = about(0, wide);
        int headLeft = about(-wide, 0);
        int headRight = about(0, wide);
        int height = about(1, style == 2 ? 12 : 60);
        check("sail", x.sail(footLeft, footRight, headLeft, headRight, height),
            n.sail(footLeft, footRight, headLeft, headRight, height));
    }

    private void shape() {
        int sail = sail();
        int h = height(sail);
        int bolt = bolt();
        int side = about(0, 1);
        switch (random.nextInt(7)) {
            case 0: {
                int length = about(0, 200);
                check("row", x.row(bolt, length), n.row(bolt, length));
                break;
            }
            case 1: {
                int k = about(0, 100);
                int v = worn();
                check("wear", x.wear(bolt, k, v), n.wear(bolt, k, v));
                break;
            }
            case 2: {
                int rows = about(0, h + 1);
                check("edge", x.edge(sail, side, rows), n.edge(sail, side, rows));
                break;
            }
            case 3: {
                int y = about(0, h);
                int v = random.nextBoolean() ? about(-200, 200) : about(-5, 5);
                check("stand", x.stand(sail, side, y, v), n.stand(sail, side, y, v));
                break;
            }
            case 4: {
                int w = about(2, 20);
                int seam = random.nextBoolean() ? 1 : about(1, Math.max(1, Math.min(w, 21) - 1));
                check("cut", x.cut(sail, w, seam), n.cut(sail, w, seam));
                break;
            }
            case 5: {
                int i = piece(sail);
                int v = about(0, 50);
                check("narrow", x.narrow(sail, i, v), n.narrow(sail, i, v));
                break;
            }
            default: {
                int y = about(0, h - 1);
                int breadth = about(1, 20);
                int length = style == 2 ? about(1, 9) : about(1, 100);
                check("patch", x.patch(sail, y, breadth, length), n.patch(sail, y, breadth, length));
                break;
            }
        }
    }

    private void layOrLift() {
        int sail = sail();
        int i = piece(sail);
        int worn = worn();
        switch (random.nextInt(style == 3 ? 12 : 6)) {
            case 0:
                check("plan", x.plan(worn), n.plan(worn));
                break;
            case 1:
            case 2:
                check("lift", x.lift(sail, i), n.lift(sail, i));
                break;
            default: {
                int bolt = bolt();
                int place = about(0, random.nextBoolean() ? 20 : 190);
                check("lay", x.lay(sail, i, bolt, place, worn), n.lay(sail, i, bolt, place, worn));
                break;
            }
        }
    }

    private void sailIt() {
        int sail = sail();
        int h = height(sail);
        switch (random.nextInt(5)) {
            case 0: {
                int k = about(0, 60);
                int load = random.nextBoolean() ? about(0, 20000) : about(0, 2000000000);
                check("mast", x.mast(k, load), n.mast(k, load));
                break;
            }
            case 1: {
                int y = about(0, 59);
                int push = about(0, 1000);
                check("wind", x.wind(y, push), n.wind(y, push));
                break;
            }
            case 2: {
                boolean is = random.nextInt(4) > 0;
                check("set", x.set(sail, is), n.set(sail, is));
                break;
            }
            case 3: {
                int line = random.nextBoolean() ? 0 : about(0, h);
                check("reef", x.reef(sail, line), n.reef(sail, line));
                break;
            }
            default: {
                int y = about(1, h);
                check("line", x.line(sail, y), n.line(sail, y));
                break;
            }
        }
    }

    private void ask() {
        int sail = sail();
        int bolt = bolt();
        int worn = worn();
        int y = about(0, height(sail));
        int k = about(0, 199);
        check("worn", x.worn(bolt, k), n.worn(bolt, k));
        check("over", x.over(bolt, k), n.over(bolt, k));
        check("left", x.left(bolt), n.left(bolt));
        check("old", x.old(bolt), n.old(bolt));
        check("at", x.at(sail, 0, y), n.at(sail, 0, y));
        check("full", x.full(sail, y), n.full(sail, y));
        check("fewest", x.fewest(sail, worn), n.fewest(sail, worn));
        check("push", x.push(y), n.push(y));
        check("bears", x.bears(), n.bears());
        check("least", x.least(), n.least());
    }

    private void compareAll() {
        for (int what = -1; what <= 3; what++) {
            check("count", x.count(what), n.count(what));
        }
        for (int b = 0; b < n.count(0); b++) {
            check("left", x.left(b), n.left(b));
            check("old", x.old(b), n.old(b));
            for (int k = 0; k <= 200; k += 7) {
                check("worn", x.worn(b, k), n.worn(b, k));
                check("over", x.over(b, k), n.over(b, k));
            }
        }
        for (int s = 0; s < n.count(1); s++) {
            for (int what = -1; what <= 9; what++) {
                check("told", x.told(s, what), n.told(s, what));
            }
            for (int y = 0; y <= height(s); y++) {
                check("at", x.at(s, 0, y), n.at(s, 0, y));
                check("at", x.at(s, 1, y), n.at(s, 1, y));
                check("full", x.full(s, y), n.full(s, y));
            }
            for (int i = 0; i <= n.told(s, 1) + n.told(s, 2); i++) {
                for (int what = 0; what <= 10; what++) {
                    check("panel", x.panel(s, i, what), n.panel(s, i, what));
                }
            }
        }
        for (int k = 0; k <= 60; k++) {
            check("push", x.push(k), n.push(k));
        }
        check("bears", x.bears(), n.bears());
        check("least", x.least(), n.least());
    }
}
