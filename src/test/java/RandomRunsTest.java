import java.util.Random;

/** The same random calls to SailLoft and to NaiveLoft; the seeds are fixed, so runs repeat. */
public final class RandomRunsTest {
    private static final int RUNS = 4000;
    private static final int LAST_QUESTIONS = 100;

    private final Random random;
    private final Due due;
    private final Loft x = new Loft();
    private final NaiveLoft n = new NaiveLoft();
    private final int style;

    private RandomRunsTest(int seed, Due due) {
        random = new Random(seed);
        this.due = due;
        style = seed % 4;
    }

    public static void main(String[] args) {
        Due due = new Due();
        for (int run = 0; run < RUNS && due.isAllRight(); run++) {
            due.about("random run " + run);
            RandomRunsTest test = new RandomRunsTest(run, due);
            while (due.isAllRight() && test.x.callsLeft() > LAST_QUESTIONS) {
                test.anyCall();
            }
            while (due.isAllRight() && test.x.callsLeft() > 0) {
                test.ask();
            }
        }
        due.end();
    }

    private int between(int low, int high) {
        return low + random.nextInt(high - low + 1);
    }

    /** Mostly one of low to high, at times one of its ends, at times just outside or far off. */
    private int about(int low, int high) {
        int dice = random.nextInt(60);
        if (dice == 0) {
            return low - 1;
        }
        if (dice == 1) {
            return high + 1;
        }
        if (dice == 2) {
            return random.nextInt();
        }
        if (dice == 3) {
            return random.nextBoolean() ? Integer.MAX_VALUE : Integer.MIN_VALUE;
        }
        if (dice < 8) {
            return low;
        }
        if (dice < 12) {
            return high;
        }
        return high < low ? low : between(low, high);
    }

    private int bolt() {
        return about(0, Math.max(0, n.count(0) - 1));
    }

    private int sail() {
        return about(0, Math.max(0, n.count(1) - 1));
    }

    private int height(int sail) {
        return Math.max(1, n.told(sail, 8));
    }

    private int piece(int sail) {
        return about(0, Math.max(0, n.told(sail, 1) + n.told(sail, 2) - 1));
    }

    private int worn() {
        return about(0, 100);
    }

    private int grams() {
        int dice = random.nextInt(8);
        if (dice == 0) {
            return random.nextInt();
        }
        float most = dice < 3 ? 1000f : dice < 5 ? 1f : 20f;
        return Float.floatToIntBits(random.nextFloat() * most);
    }

    private void check(String call, long got, long want) {
        due.is(call, got, want);
        if (got != want) {
            System.out.println(x.run());
        }
    }

    private void check(String call, boolean got, boolean want) {
        check(call, got ? 1 : 0, want ? 1 : 0);
    }

    private void anyCall() {
        int dice = random.nextInt(100);
        if (dice < 13) {
            makeSomething();
        } else if (dice < 33) {
            shape();
        } else if (dice < 57) {
            layOrLift();
        } else if (dice < 72) {
            sailIt();
        } else if (dice < (style == 0 ? 90 : 78)) {
            check("undo", x.undo(), n.undo());
        } else if (dice < 81) {
            int sail = sail();
            check("take", x.take(sail), n.take(sail));
        } else {
            ask();
        }
    }

    private void makeSomething() {
        if (random.nextBoolean()) {
            int width = about(2, 20);
            int length = about(1, 200);
            int grams = grams();
            check("bolt", x.bolt(width, length, grams), n.bolt(width, length, grams));
            return;
        }
        int wide = style == 1 ? 500 : style == 2 ? 6 : 60;
        int footLeft = about(-wide, 0);
        int footRight = about(0, wide);
        int headLeft = about(-wide, 0);
        int headRight = about(0, wide);
        int height = about(1, style == 2 ? 12 : 60);
        check("sail", x.sail(footLeft, footRight, headLeft, headRight, height),
            n.sail(footLeft, footRight, headLeft, headRight, height));
    }

    private void shape() {
        int sail = sail();
        int h = height(sail);
        int bolt = bolt();
        int side = about(0, 1);
        switch (random.nextInt(7)) {
            case 0: {
                int length = about(0, 200);
                check("row", x.row(bolt, length), n.row(bolt, length));
                break;
            }
            case 1: {
                int k = about(0, 100);
                int v = worn();
                check("wear", x.wear(bolt, k, v), n.wear(bolt, k, v));
                break;
            }
            case 2: {
                int rows = about(0, h + 1);
                check("edge", x.edge(sail, side, rows), n.edge(sail, side, rows));
                break;
            }
            case 3: {
                int y = about(0, h);
                int v = random.nextBoolean() ? about(-200, 200) : about(-5, 5);
                check("stand", x.stand(sail, side, y, v), n.stand(sail, side, y, v));
                break;
            }
            case 4: {
                int w = about(2, 20);
                int seam = random.nextBoolean() ? 1 : about(1, Math.max(1, Math.min(w, 21) - 1));
                check("cut", x.cut(sail, w, seam), n.cut(sail, w, seam));
                break;
            }
            case 5: {
                int i = piece(sail);
                int v = about(0, 50);
                check("narrow", x.narrow(sail, i, v), n.narrow(sail, i, v));
                break;
            }
            default: {
                int y = about(0, h - 1);
                int breadth = about(1, 20);
                int length = style == 2 ? about(1, 9) : about(1, 100);
                check("patch", x.patch(sail, y, breadth, length), n.patch(sail, y, breadth, length));
                break;
            }
        }
    }

    private void layOrLift() {
        int sail = sail();
        int i = piece(sail);
        int worn = worn();
        switch (random.nextInt(style == 3 ? 12 : 6)) {
            case 0:
                check("plan", x.plan(worn), n.plan(worn));
                break;
            case 1:
            case 2:
                check("lift", x.lift(sail, i), n.lift(sail, i));
                break;
            default: {
                int bolt = bolt();
                int place = about(0, random.nextBoolean() ? 20 : 190);
                check("lay", x.lay(sail, i, bolt, place, worn), n.lay(sail, i, bolt, place, worn));
                break;
            }
        }
    }

    private void sailIt() {
        int sail = sail();
        int h = height(sail);
        switch (random.nextInt(5)) {
            case 0: {
                int k = about(0, 60);
                int load = random.nextBoolean() ? about(0, 20000) : about(0, 2000000000);
                check("mast", x.mast(k, load), n.mast(k, load));
                break;
            }
            case 1: {
                int y = about(0, 59);
                int push = about(0, 1000);
                check("wind", x.wind(y, push), n.wind(y, push));
                break;
            }
            case 2: {
                boolean is = random.nextInt(4) > 0;
                check("set", x.set(sail, is), n.set(sail, is));
                break;
            }
            case 3: {
                int line = random.nextBoolean() ? 0 : about(0, h);
                check("reef", x.reef(sail, line), n.reef(sail, line));
                break;
            }
            default: {
                int y = about(1, h);
                check("line", x.line(sail, y), n.line(sail, y));
                break;
            }
        }
    }

    private void ask() {
        switch (random.nextInt(3)) {
            case 0:
                askOfABolt();
                break;
            case 1:
                askOfASail();
                break;
            default:
                askOfTheWhole();
                break;
        }
    }

    private void askOfABolt() {
        int bolt = bolt();
        int k = random.nextBoolean() ? about(0, 199) : about(0, 20);
        switch (random.nextInt(6)) {
            case 0:
            case 1:
                check("worn", x.worn(bolt, k), n.worn(bolt, k));
                break;
            case 2:
            case 3:
                check("over", x.over(bolt, k), n.over(bolt, k));
                break;
            case 4:
                check("left", x.left(bolt), n.left(bolt));
                break;
            default:
                check("old", x.old(bolt), n.old(bolt));
                break;
        }
    }

    private void askOfASail() {
        int sail = sail();
        int y = about(0, height(sail));
        int side = about(0, 1);
        int i = piece(sail);
        int what = about(0, 9);
        int worn = worn();
        switch (random.nextInt(9)) {
            case 0:
                check("at", x.at(sail, side, y), n.at(sail, side, y));
                break;
            case 1:
                check("full", x.full(sail, y), n.full(sail, y));
                break;
            case 2:
                check("fewest", x.fewest(sail, worn), n.fewest(sail, worn));
                break;
            case 3:
            case 4:
                check("told", x.told(sail, what), n.told(sail, what));
                break;
            default:
                check("panel", x.panel(sail, i, what), n.panel(sail, i, what));
                break;
        }
    }

    private void askOfTheWhole() {
        int k = about(0, 60);
        int what = about(0, 2);
        switch (random.nextInt(6)) {
            case 0:
                check("count", x.count(what), n.count(what));
                break;
            case 1:
            case 2:
            case 3:
                check("push", x.push(k), n.push(k));
                break;
            case 4:
                check("bears", x.bears(), n.bears());
                break;
            default:
                check("least", x.least(), n.least());
                break;
        }
    }
}
