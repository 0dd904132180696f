/** At least one check for each promise of DOC.md: ordinary inputs, edges, wrong inputs. */
public final class PromisesTest {
    private static final int LOW = Integer.MIN_VALUE;
    private static final int HIGH = Integer.MAX_VALUE;
    private static final int[] FAR = {LOW, -1, HIGH};

    private static final Due due = new Due();

    public static void main(String[] args) {
        promise1New();
        promise2Bolt();
        promise2Floats();
        promise3Row();
        promise4Wear();
        promise5Worn();
        promise6Sail();
        promise7Edge();
        promise8Stand();
        promise9At();
        promise10Cut();
        promise11Narrow();
        promise12Patch();
        promise13Told();
        promise14Panel();
        promise14Weight();
        promise15Full();
        promise16Lay();
        promise17Lift();
        promise18Left();
        promise19Over();
        promise20Plan();
        promise21Fewest();
        promise21FewestOfManyBolts();
        promise22Mast();
        promise23Wind();
        promise24Set();
        promise25Reef();
        promise26Line();
        promise27Push();
        promise28Bears();
        promise29Least();
        promise30Take();
        promise31Old();
        promise32UndoEach();
        promise32UndoLimit();
        promise33Count();
        due.end();
    }

    private static void promise1New() {
        due.about("1 a new object");
        due.is("NONE", SailLoft.NONE, -1);
        Loft x = new Loft();
        due.is("count(0)", x.count(0), 0);
        due.is("count(1)", x.count(1), 0);
        due.is("count(2)", x.count(2), 0);
        due.no("undo", x.undo());
        due.is("worn", x.worn(0, 0), -1);
        due.is("at", x.at(0, 0, 0), -10000);
        due.is("bears", x.bears(), -1);
        due.is("least", x.least(), 0);
        due.is("plan", x.plan(0), -1);
        for (int k = 0; k <= 60; k++) {
            due.is("push", x.push(k), 0);
        }
    }

    private static void promise2Bolt() {
        due.about("2 bolt");
        Loft x = new Loft();
        due.is("narrow", x.bolt(1, 10, 0), -1);
        due.is("wide", x.bolt(21, 10, 0), -1);
        due.is("short", x.bolt(2, 0, 0), -1);
        due.is("long", x.bolt(2, 201, 0), -1);
        for (int far : FAR) {
            due.is("width", x.bolt(far, 10, 0), -1);
            due.is("length", x.bolt(2, far, 0), -1);
        }
        due.is("count", x.count(0) + x.count(2), 0);
        due.is("least", x.bolt(2, 1, 0), 0);
        due.is("most", x.bolt(20, 200, Lofts.bits(1000f)), 1);
        for (int b = 2; b < 24; b++) {
            due.is("bolt", x.bolt(5, 5, Lofts.bits(1f)), b);
        }
        due.is("25th", x.bolt(5, 5, Lofts.bits(1f)), -1);
        due.is("count", x.count(0), 24);
    }

    private static void promise2Floats() {
        due.about("2 grams");
        float[] wrong = {Float.NaN, Float.POSITIVE_INFINITY, Float.NEGATIVE_INFINITY, -1f,
            -Float.MIN_VALUE, Math.nextUp(1000f), Float.MAX_VALUE};
        for (float grams : wrong) {
            due.is("bolt of " + grams, new Loft().bolt(2, 1, Lofts.bits(grams)), -1);
        }
        due.is("another NaN", new Loft().bolt(2, 1, 0x7F800001), -1);
        due.is("a NaN with a sign", new Loft().bolt(2, 1, 0xFFC00000), -1);
        float[] right = {0f, -0f, Float.MIN_VALUE, Float.MIN_NORMAL, Math.nextDown(Float.MIN_NORMAL),
            0.1f, 1f, 2.5f, 3.14159f, 16f, 99.99f, 512f, 999.9999f, 1000f};
        for (float grams : right) {
            Loft x = new Loft();
            due.is("bolt of " + grams, x.bolt(20, 200, Lofts.bits(grams)), 0);
            x.sail(0, 7, 0, 7, 13);
            x.cut(0, 20, 1);
            due.yes("lay", x.lay(0, 0, 0, 0, 0));
            due.is("weight at " + grams, x.panel(0, 0, 8), (int) (grams * 182f / 2f));
        }
    }

    private static void promise3Row() {
        due.about("3 row");
        Loft x = new Loft();
        x.bolt(5, 20, 0);
        for (int far : FAR) {
            due.no("bolt", x.row(far, 1));
            due.no("n", x.row(0, far));
        }
        due.no("no such bolt", x.row(1, 1));
        due.no("n above the length", x.row(0, 21));
        due.is("acts", x.count(2), 1);
        due.yes("n at the length", x.row(0, 20));
        due.yes("wear", x.wear(0, 19, 7));
        due.yes("again", x.row(0, 20));
        due.is("all 0", x.worn(0, 19), 0);
        due.yes("missing", x.row(0, 0));
        due.no("tells nothing", x.wear(0, 0, 1));
        x.sail(0, 3, 0, 3, 3);
        x.cut(0, 5, 1);
        x.lay(0, 0, 0, 17, 0);
        due.no("something lies on it", x.row(0, 5));
        x.lift(0, 0);
        due.yes("nothing does", x.row(0, 5));
        rowsAfterManyActs();
    }

    // Longer than undo looks back, so that nothing of an older row may come through.
    private static void rowsAfterManyActs() {
        Loft x = new Loft();
        x.bolt(5, 200, 0);
        x.sail(0, 5, 0, 5, 60);
        for (int round = 0; round < 40; round++) {
            int k = round % 2 == 0 ? 0 : 199;
            due.yes("row", x.row(0, 200));
            due.is("first is 0", x.worn(0, 0), 0);
            due.is("last is 0", x.worn(0, 199), 0);
            due.yes("wear", x.wear(0, k, 100));
            due.is("worn", x.worn(0, k), 100);
            due.yes("edge", x.edge(0, round % 2, 61));
            due.is("foot", x.at(0, round % 2, 0), round % 2 * 5);
            due.is("head", x.at(0, round % 2, 60), round % 2 * 5);
            due.yes("stand at the foot", x.stand(0, round % 2, 0, 200));
            due.yes("stand at the head", x.stand(0, round % 2, 60, -200));
            due.is("head", x.at(0, round % 2, 60), round % 2 * 5 - 200);
        }
        due.yes("one place", x.row(0, 1));
        due.yes("is told", x.wear(0, 0, 1));
        due.no("no more", x.wear(0, 1, 1));
        due.yes("one place", x.edge(0, 0, 1));
        due.yes("is told", x.stand(0, 0, 0, 1));
        due.no("no more", x.stand(0, 0, 1, 1));
    }

    private static void promise4Wear() {
        due.about("4 wear");
        Loft x = new Loft();
        x.bolt(5, 20, 0);
        due.no("missing row", x.wear(0, 0, 1));
        x.row(0, 10);
        for (int far : FAR) {
            due.no("bolt", x.wear(far, 0, 1));
            due.no("k", x.wear(0, far, 1));
            due.no("v", x.wear(0, 0, far));
        }
        due.no("no such bolt", x.wear(1, 0, 1));
        due.no("behind the row", x.wear(0, 10, 1));
        due.no("v", x.wear(0, 0, 101));
        due.yes("most", x.wear(0, 9, 100));
        due.is("worn", x.worn(0, 9), 100);
        due.yes("least", x.wear(0, 9, 0));
        due.is("worn", x.worn(0, 9), 0);
        due.yes("the same again is an act", x.wear(0, 9, 0));
        due.is("acts", x.count(2), 5);
        x.sail(0, 3, 0, 3, 3);
        x.cut(0, 5, 1);
        x.lay(0, 0, 0, 10, 0);
        due.no("something lies on it", x.wear(0, 0, 1));
    }

    private static void promise5Worn() {
        due.about("5 worn");
        Loft x = new Loft();
        x.bolt(5, 20, 0);
        due.is("missing", x.worn(0, 19), 0);
        x.row(0, 3);
        x.wear(0, 1, 42);
        due.is("0", x.worn(0, 0), 0);
        due.is("1", x.worn(0, 1), 42);
        due.is("behind the row", x.worn(0, 3), 0);
        due.is("last", x.worn(0, 19), 0);
        due.is("behind the bolt", x.worn(0, 20), -1);
        due.is("no such bolt", x.worn(1, 0), -1);
        for (int far : FAR) {
            due.is("bolt", x.worn(far, 0), -1);
            due.is("k", x.worn(0, far), -1);
        }
    }

    private static void promise6Sail() {
        due.about("6 sail");
        Loft x = new Loft();
        int[] wrong = {-501, 501, LOW, HIGH};
        for (int v : wrong) {
            due.is("footLeft", x.sail(v, 0, 0, 0, 1), -1);
            due.is("footRight", x.sail(0, v, 0, 0, 1), -1);
            due.is("headLeft", x.sail(0, 0, v, 0, 1), -1);
            due.is("headRight", x.sail(0, 0, 0, v, 1), -1);
        }
        due.is("height", x.sail(0, 1, 0, 1, 0), -1);
        due.is("height", x.sail(0, 1, 0, 1, 61), -1);
        for (int far : FAR) {
            due.is("height", x.sail(0, 1, 0, 1, far), -1);
        }
        due.is("nothing done", x.count(1) + x.count(2), 0);
        due.is("edges may cross", x.sail(500, -500, 500, -500, 1), 0);
        due.is("most", x.sail(-500, 500, -500, 500, 60), 1);
        for (int s = 2; s < 10; s++) {
            due.is("sail", x.sail(0, 1, 0, 1, s), s);
        }
        due.is("11th", x.sail(0, 1, 0, 1, 1), -1);
        due.is("count", x.count(1), 10);
    }

    private static void promise7Edge() {
        due.about("7 edge");
        Loft x = new Loft();
        x.sail(0, 5, 0, 5, 4);
        for (int far : FAR) {
            due.no("sail", x.edge(far, 0, 1));
            due.no("side", x.edge(0, far, 1));
            due.no("n", x.edge(0, 0, far));
        }
        due.no("no such sail", x.edge(1, 0, 1));
        due.no("no such side", x.edge(0, 2, 1));
        due.no("n above H + 1", x.edge(0, 0, 6));
        due.is("acts", x.count(2), 1);
        due.yes("n is H + 1", x.edge(0, 1, 5));
        due.yes("stand", x.stand(0, 1, 4, 9));
        due.no("the other side has none", x.stand(0, 0, 4, 9));
        due.yes("again", x.edge(0, 1, 5));
        due.is("all 0", x.at(0, 1, 4), 5);
        due.yes("missing", x.edge(0, 1, 0));
        due.no("tells nothing", x.stand(0, 1, 0, 1));
        x.cut(0, 5, 1);
        due.no("not open", x.edge(0, 0, 1));
    }

    private static void promise8Stand() {
        due.about("8 stand");
        Loft x = new Loft();
        x.sail(0, 5, 0, 5, 4);
        x.edge(0, 0, 3);
        x.edge(0, 1, 5);
        for (int far : FAR) {
            due.no("sail", x.stand(far, 0, 0, 1));
            due.no("side", x.stand(0, far, 0, 1));
            due.no("y", x.stand(0, 0, far, 1));
        }
        int[] wrong = {-201, 201, LOW, HIGH};
        for (int v : wrong) {
            due.no("v", x.stand(0, 0, 0, v));
        }
        due.no("no such side", x.stand(0, 2, 0, 1));
        due.no("behind the row", x.stand(0, 0, 3, 1));
        due.no("behind the sail", x.stand(0, 1, 5, 1));
        due.is("acts", x.count(2), 3);
        due.yes("least", x.stand(0, 0, 2, -200));
        due.is("at", x.at(0, 0, 2), -200);
        due.yes("most", x.stand(0, 1, 4, 200));
        due.is("at", x.at(0, 1, 4), 205);
        due.is("the other side", x.at(0, 0, 4), 0);
        x.cut(0, 5, 1);
        due.no("not open", x.stand(0, 0, 0, 1));
    }

    private static void promise9At() {
        due.about("9 at");
        Loft x = new Loft();
        x.sail(0, 10, -7, 17, 3);
        int[] left = {0, -2, -4, -7};
        int[] right = {10, 12, 14, 17};
        for (int y = 0; y <= 3; y++) {
            due.is("left at " + y + ", cut towards 0", x.at(0, 0, y), left[y]);
            due.is("right at " + y, x.at(0, 1, y), right[y]);
        }
        x.edge(0, 0, 2);
        x.stand(0, 0, 1, 30);
        due.is("with its row", x.at(0, 0, 1), 28);
        due.is("behind its row", x.at(0, 0, 2), -4);
        due.is("above", x.at(0, 0, 4), -10000);
        due.is("no such side", x.at(0, 2, 0), -10000);
        due.is("no such sail", x.at(1, 0, 0), -10000);
        for (int far : FAR) {
            due.is("sail", x.at(far, 0, 0), -10000);
            due.is("side", x.at(0, far, 0), -10000);
            due.is("y", x.at(0, 0, far), -10000);
        }
        x.sail(0, 5, 3, 9, 1);
        due.is("the head of one strip", x.at(1, 0, 1), 3);
        due.is("the head of one strip", x.at(1, 1, 1), 9);
        Loft cut = Lofts.plain();
        cut.plan(0);
        due.is("cut", cut.at(0, 1, 10), 10);
        cut.take(0);
        due.is("taken", cut.at(0, 1, 10), 10);
    }

    private static void promise10Cut() {
        due.about("10 cut");
        Loft x = new Loft();
        x.sail(0, 5, 0, 5, 60);
        for (int far : FAR) {
            due.is("sail", x.cut(far, 5, 1), -1);
            due.is("w", x.cut(0, far, 1), -1);
            due.is("seam", x.cut(0, 5, far), -1);
        }
        due.is("no such sail", x.cut(1, 5, 1), -1);
        due.is("w", x.cut(0, 1, 0), -1);
        due.is("w", x.cut(0, 21, 1), -1);
        due.is("no seam", x.cut(0, 5, 0), -1);
        due.is("all seam", x.cut(0, 5, 5), -1);
        due.is("60 panels", x.cut(0, 5, 4), -1);
        due.is("still open", x.told(0, 0), 0);
        due.is("acts", x.count(2), 1);
        due.is("30 panels", x.cut(0, 5, 3), 30);
        due.is("again", x.cut(0, 5, 3), -1);
        x.sail(0, 5, 0, 5, 41);
        due.is("41 panels", x.cut(1, 2, 1), -1);
        x.sail(0, 5, 0, 5, 40);
        due.is("40 panels", x.cut(2, 2, 1), 40);
        x.sail(0, 5, 0, 5, 19);
        due.is("one panel", x.cut(3, 20, 1), 1);
        x.sail(0, 5, 0, 5, 20);
        due.is("and one more", x.cut(4, 20, 1), 2);
        edgesThatMeet();
    }

    private static void edgesThatMeet() {
        for (int y = 0; y <= 6; y++) {
            Loft x = new Loft();
            x.sail(0, 5, 0, 5, 6);
            x.edge(0, 0, 7);
            x.stand(0, 0, y, 5);
            due.is("edges meet at " + y, x.cut(0, 5, 1), -1);
            x.stand(0, 0, y, 4);
            due.is("edges don't meet at " + y, x.cut(0, 5, 1), 2);
        }
    }

    private static void promise11Narrow() {
        due.about("11 narrow");
        Loft x = Lofts.plain();
        int acts = x.count(2);
        for (int far : FAR) {
            due.no("sail", x.narrow(far, 0, 1));
            due.no("i", x.narrow(0, far, 1));
            due.no("v", x.narrow(0, 0, far));
        }
        due.no("v", x.narrow(0, 0, 51));
        due.no("the last panel", x.narrow(0, 2, 1));
        x.patch(0, 0, 1, 1);
        x.patch(0, 0, 1, 1);
        due.no("a patch makes no seam", x.narrow(0, 2, 1));
        due.no("a patch", x.narrow(0, 3, 1));
        due.is("acts", x.count(2), acts + 2);
        due.yes("most", x.narrow(0, 1, 50));
        due.is("lets", x.panel(0, 1, 9), 50);
        due.is("kind", x.panel(0, 1, 0), 1);
        due.is("the other", x.panel(0, 0, 9), 0);
        due.yes("none", x.narrow(0, 1, 0));
        due.is("kind", x.panel(0, 1, 0), 0);
        due.yes("least", x.narrow(0, 1, 1));
        due.is("kind", x.panel(0, 1, 0), 1);
        x.sail(0, 5, 0, 5, 10);
        due.no("open", x.narrow(1, 0, 1));
        x.plan(0);
        x.take(0);
        due.no("taken", x.narrow(0, 0, 1));
    }

    private static void promise12Patch() {
        due.about("12 patch");
        Loft x = Lofts.plain();
        for (int far : FAR) {
            due.is("sail", x.patch(far, 0, 1, 1), -1);
            due.is("y", x.patch(0, far, 1, 1), -1);
            due.is("breadth", x.patch(0, 0, far, 1), -1);
            due.is("length", x.patch(0, 0, 1, far), -1);
        }
        due.is("strip", x.patch(0, 10, 1, 1), -1);
        due.is("breadth", x.patch(0, 0, 0, 1), -1);
        due.is("breadth", x.patch(0, 0, 21, 1), -1);
        due.is("length", x.patch(0, 0, 1, 0), -1);
        due.is("length", x.patch(0, 0, 1, 101), -1);
        due.is("acts", x.count(2), 4);
        due.is("least", x.patch(0, 0, 1, 1), 3);
        due.is("most", x.patch(0, 9, 20, 100), 4);
        for (int i = 5; i < 40; i++) {
            due.is("patch", x.patch(0, 4, 2, 3), i);
        }
        due.is("41st", x.patch(0, 4, 2, 3), -1);
        due.is("patches", x.told(0, 2), 37);
        x.undo();
        due.is("the 41st was no act", x.told(0, 2), 36);
        due.is("none behind", x.panel(0, 39, 0), -1);
        x.sail(0, 5, 0, 5, 10);
        due.is("open", x.patch(1, 0, 1, 1), -1);
        Loft taken = Lofts.plain();
        taken.plan(0);
        taken.take(0);
        due.is("taken", taken.patch(0, 0, 1, 1), -1);
    }

    private static void promise13Told() {
        due.about("13 told");
        Loft x = new Loft();
        x.sail(0, -10, 0, -11, 2);
        int[] open = {0, 0, 0, -41, 0, 0, 0, 0, 2};
        for (int what = 0; what < open.length; what++) {
            due.is("open, " + what, x.told(0, what), open[what]);
        }
        for (int far : FAR) {
            due.is("sail", x.told(far, 0), -1);
            due.is("what", x.told(0, far), -1);
        }
        due.is("what", x.told(0, 9), -1);
        due.is("no such sail", x.told(1, 0), -1);
        Loft y = Lofts.plain();
        y.patch(0, 3, 2, 4);
        y.line(0, 2);
        y.line(0, 10);
        y.reef(0, 7);
        y.set(0, true);
        y.plan(0);
        int[] cut = {1, 3, 1, 200, 7, 1, 40 + 40 + 20 + 8, 2, 10};
        for (int what = 0; what < cut.length; what++) {
            due.is("cut, " + what, y.told(0, what), cut[what]);
        }
        y.take(0);
        int[] taken = {2, 3, 1, 200, 7, 0, 40 + 40 + 20 + 8, 2, 10};
        for (int what = 0; what < taken.length; what++) {
            due.is("taken, " + what, y.told(0, what), taken[what]);
        }
    }

    private static void promise14Panel() {
        due.about("14 panel");
        Loft x = Lofts.plain();
        x.narrow(0, 0, 6);
        x.patch(0, 9, 3, 7);
        x.lay(0, 0, 1, 50, 0);
        x.lay(0, 3, 0, 20, 0);
        int[][] want = {
            {1, 0, 4, 10, 5, 80, 1, 50, 80, 6},
            {0, 4, 8, 10, 5, 80, -1, -1, 0, 0},
            {0, 8, 10, 10, 3, 40, -1, -1, 0, 0},
            {2, 9, 10, 7, 3, 42, 0, 20, 21, 0},
        };
        for (int i = 0; i < want.length; i++) {
            for (int what = 0; what < 10; what++) {
                due.is("panel " + i + ", " + what, x.panel(0, i, what), want[i][what]);
            }
        }
        for (int far : FAR) {
            due.is("sail", x.panel(far, 0, 0), -1);
            due.is("i", x.panel(0, far, 0), -1);
            due.is("what", x.panel(0, 0, far), -1);
        }
        due.is("what", x.panel(0, 0, 10), -1);
        due.is("i", x.panel(0, 4, 0), -1);
        x.sail(0, 5, 0, 5, 5);
        due.is("open", x.panel(1, 0, 0), -1);
        lengthLooksAtBothEnds();
        kindOld();
    }

    private static void lengthLooksAtBothEnds() {
        Loft x = new Loft();
        x.sail(0, 5, 0, 5, 8);
        x.edge(0, 0, 9);
        x.edge(0, 1, 9);
        x.stand(0, 0, 4, -3);
        x.stand(0, 1, 8, 6);
        x.cut(0, 5, 1);
        due.is("length, lower panel", x.panel(0, 0, 3), 8);
        due.is("length, upper panel", x.panel(0, 1, 3), 14);
        due.is("area, lower panel", x.panel(0, 0, 5), 43);
        due.is("area, upper panel", x.panel(0, 1, 5), 49);
    }

    private static void kindOld() {
        Loft x = Lofts.plain();
        x.plan(0);
        x.take(0);
        x.sail(0, 5, 0, 5, 6);
        x.cut(1, 4, 1);
        x.patch(1, 0, 2, 2);
        x.narrow(1, 0, 9);
        due.is("tapered", x.panel(1, 0, 0), 1);
        due.is("take needs all", x.take(1), -1);
        due.yes("lay a tapered one", x.lay(1, 0, 2, 0, 0));
        due.yes("lay a panel", x.lay(1, 1, 3, 0, 0));
        due.yes("lay a patch", x.lay(1, 2, 4, 0, 0));
        due.is("old rather than tapered", x.panel(1, 0, 0), 3);
        due.is("old", x.panel(1, 1, 0), 3);
        due.is("a patch stays one", x.panel(1, 2, 0), 2);
        due.is("still lets out", x.panel(1, 0, 9), 9);
        x.lift(1, 0);
        due.is("tapered again", x.panel(1, 0, 0), 1);
        due.is("laid on a new bolt", x.panel(0, 0, 0), 0);
    }

    private static void promise14Weight() {
        due.about("14 weight");
        Loft x = new Loft();
        x.bolt(20, 200, Lofts.bits(1000f));
        x.bolt(20, 200, Lofts.bits(0.3f));
        x.bolt(20, 200, Lofts.bits(16f));
        x.sail(0, 100, 0, 100, 19);
        x.cut(0, 20, 1);
        due.yes("lay", x.lay(0, 0, 0, 0, 0));
        due.is("1,000,000 at most", x.panel(0, 0, 8), 1000000);
        x.patch(0, 0, 10, 100);
        x.patch(0, 0, 7, 3);
        due.yes("lay", x.lay(0, 1, 0, 100, 0));
        due.is("just 1,000,000", x.panel(0, 1, 8), 1000000);
        due.yes("lay", x.lay(0, 2, 1, 0, 0));
        due.is("as a float", x.panel(0, 2, 8), (int) (0.3f * 42f / 2f));
        due.is("of all", x.told(0, 6), 2000006);
        x.lift(0, 2);
        due.is("not laid", x.panel(0, 2, 8), 0);
        due.is("of all that is laid", x.told(0, 6), 2000000);
        x.take(0);
    }

    private static void promise15Full() {
        due.about("15 full");
        Loft x = Lofts.plain();
        x.narrow(0, 0, 5);
        x.narrow(0, 1, 50);
        for (int y = 0; y <= 10; y++) {
            due.is("full at " + y, x.full(0, y), y < 4 ? 0 : y < 8 ? 5 : 55);
        }
        due.is("above", x.full(0, 11), -1);
        for (int far : FAR) {
            due.is("sail", x.full(far, 0), -1);
            due.is("y", x.full(0, far), -1);
        }
        x.sail(0, 5, 0, 5, 5);
        due.is("open", x.full(1, 0), -1);
        x.plan(0);
        x.take(0);
        due.is("taken", x.full(0, 0), -1);
    }

    private static void promise16Lay() {
        due.about("16 lay");
        Loft x = new Loft();
        x.bolt(5, 30, 0);
        x.bolt(4, 30, 0);
        x.row(0, 25);
        x.wear(0, 24, 60);
        x.sail(0, 10, 0, 10, 12);
        due.no("open", x.lay(0, 0, 0, 0, 100));
        x.cut(0, 5, 1);
        int acts = x.count(2);
        for (int far : FAR) {
            due.no("sail", x.lay(far, 0, 0, 0, 0));
            due.no("i", x.lay(0, far, 0, 0, 0));
            due.no("bolt", x.lay(0, 0, far, 0, 0));
            due.no("place", x.lay(0, 0, 0, far, 0));
            due.no("worn", x.lay(0, 0, 0, 0, far));
        }
        due.no("no such bolt", x.lay(0, 0, 2, 0, 0));
        due.no("no such piece", x.lay(0, 3, 0, 0, 0));
        due.no("worn", x.lay(0, 0, 0, 0, 101));
        due.no("too broad", x.lay(0, 0, 1, 0, 0));
        due.no("past the end", x.lay(0, 0, 0, 21, 100));
        due.no("too worn", x.lay(0, 0, 0, 15, 59));
        due.is("acts", x.count(2), acts);
        due.yes("just not too worn", x.lay(0, 0, 0, 15, 60));
        due.no("laid already", x.lay(0, 0, 0, 0, 100));
        due.no("one over its end", x.lay(0, 1, 0, 6, 100));
        due.yes("beside it", x.lay(0, 1, 0, 5, 0));
        due.no("over it at its start", x.lay(0, 2, 0, 14, 100));
        due.no("over what lies", x.lay(0, 2, 0, 20, 100));
        x.lift(0, 0);
        due.yes("up to the end", x.lay(0, 2, 0, 20, 60));
        x.lift(0, 1);
        x.lay(0, 0, 0, 0, 0);
        x.lay(0, 1, 0, 10, 0);
        x.patch(0, 0, 1, 1);
        x.lay(0, 3, 1, 29, 0);
        x.take(0);
        x.sail(0, 10, 0, 10, 1);
        x.cut(1, 2, 1);
        due.no("what a taken sail has stays its", x.lay(1, 0, 0, 0, 100));
        due.no("of a taken sail", x.lay(0, 0, 1, 0, 100));
    }

    private static void promise17Lift() {
        due.about("17 lift");
        Loft x = Lofts.plain();
        due.no("not laid", x.lift(0, 0));
        x.lay(0, 0, 0, 5, 0);
        for (int far : FAR) {
            due.no("sail", x.lift(far, 0));
            due.no("i", x.lift(0, far));
        }
        due.no("no such piece", x.lift(0, 3));
        due.no("no such sail", x.lift(1, 0));
        due.yes("lift", x.lift(0, 0));
        due.is("bolt", x.panel(0, 0, 6), -1);
        due.is("place", x.panel(0, 0, 7), -1);
        due.is("over", x.over(0, 5), -1);
        due.no("again", x.lift(0, 0));
        x.plan(0);
        x.take(0);
        due.no("taken", x.lift(0, 0));
    }

    private static void promise18Left() {
        due.about("18 left");
        Loft x = Lofts.plain();
        due.is("all", x.left(0), 200);
        x.lay(0, 0, 0, 5, 0);
        x.lay(0, 1, 0, 100, 0);
        due.is("less", x.left(0), 180);
        due.is("the other", x.left(1), 200);
        x.lift(0, 0);
        due.is("more", x.left(0), 190);
        due.is("no such bolt", x.left(2), -1);
        for (int far : FAR) {
            due.is("bolt", x.left(far), -1);
        }
    }

    private static void promise19Over() {
        due.about("19 over");
        Loft x = Lofts.plain();
        for (int s = 1; s < 10; s++) {
            x.sail(0, 1, 0, 1, 40);
        }
        x.cut(9, 2, 1);
        due.yes("lay", x.lay(9, 39, 1, 199, 0));
        due.is("sail 9, piece 39", x.over(1, 199), 939);
        x.lay(0, 2, 0, 5, 0);
        for (int k = 0; k < 20; k++) {
            due.is("over " + k, x.over(0, k), k >= 5 && k < 15 ? 2 : -1);
        }
        due.is("behind", x.over(0, 200), -1);
        due.is("no such bolt", x.over(2, 0), -1);
        for (int far : FAR) {
            due.is("bolt", x.over(far, 0), -1);
            due.is("k", x.over(0, far), -1);
        }
    }

    private static void promise20Plan() {
        due.about("20 plan");
        Loft x = new Loft();
        x.bolt(2, 100, 0);
        x.bolt(5, 25, 0);
        x.bolt(5, 100, 0);
        x.row(1, 12);
        x.wear(1, 11, 30);
        x.sail(0, 10, 0, 10, 10);
        x.sail(0, 4, 0, 4, 4);
        x.sail(0, 4, 0, 4, 4);
        x.cut(0, 5, 1);
        x.cut(2, 3, 1);
        x.lay(0, 1, 2, 3, 0);
        int acts = x.count(2);
        for (int far : FAR) {
            due.is("worn", x.plan(far), -2);
        }
        due.is("worn", x.plan(101), -2);
        due.is("acts", x.count(2), acts);
        due.is("all", x.plan(29), -1);
        due.is("one act", x.count(2), acts + 1);
        int[][] want = {{0, 0, 1, 0}, {0, 1, 2, 3}, {0, 2, 1, 12}, {2, 0, 2, 13}, {2, 1, 2, 17}};
        for (int[] piece : want) {
            due.is("bolt of " + piece[0] + "." + piece[1], x.panel(piece[0], piece[1], 6), piece[2]);
            due.is("place of " + piece[0] + "." + piece[1], x.panel(piece[0], piece[1], 7), piece[3]);
        }
        due.is("nothing more", x.plan(0), -1);
        due.is("no act", x.count(2), acts + 1);
        planThatEnds();
    }

    private static void planThatEnds() {
        Loft x = new Loft();
        x.bolt(5, 25, 0);
        x.sail(0, 4, 0, 4, 4);
        x.cut(0, 5, 1);
        x.patch(0, 0, 6, 1);
        x.sail(0, 4, 0, 4, 4);
        x.cut(1, 5, 1);
        due.is("none takes the patch", x.plan(0), 1);
        due.is("what came ahead stays", x.panel(0, 0, 6), 0);
        due.is("what comes behind doesn't lie", x.panel(1, 0, 6), -1);
        int acts = x.count(2);
        due.is("again", x.plan(0), 1);
        due.is("no act", x.count(2), acts);
        x.bolt(6, 1, 0);
        x.patch(1, 0, 7, 1);
        due.is("of the second sail", x.plan(100), 101);
        due.yes("undo", x.undo());
        due.is("undone", x.panel(1, 0, 6), -1);
        due.is("undone", x.panel(0, 1, 6), -1);
        due.is("not undone", x.panel(0, 0, 6), 0);
    }

    private static void promise21Fewest() {
        due.about("21 fewest");
        Loft x = new Loft();
        x.sail(0, 10, 0, 10, 16);
        due.is("open", x.fewest(0, 0), -1);
        x.cut(0, 5, 1);
        due.is("no bolts", x.fewest(0, 0), -1);
        x.bolt(5, 20, 0);
        x.bolt(5, 20, 0);
        due.is("two by two", x.fewest(0, 0), 2);
        x.bolt(5, 40, 0);
        due.is("all on one", x.fewest(0, 0), 1);
        x.row(2, 40);
        x.wear(2, 39, 50);
        due.is("worn somewhere", x.fewest(0, 49), 2);
        due.is("not above what is told", x.fewest(0, 50), 1);
        x.wear(2, 39, 0);
        x.wear(2, 0, 50);
        due.is("worn at its first place", x.fewest(0, 49), 2);
        x.wear(2, 0, 0);
        due.is("worn nowhere", x.fewest(0, 49), 1);
        x.wear(2, 39, 50);
        x.bolt(4, 200, 0);
        due.is("too narrow a bolt", x.fewest(0, 49), 2);
        for (int far : FAR) {
            due.is("sail", x.fewest(far, 0), -1);
            due.is("worn", x.fewest(0, far), -1);
        }
        due.is("worn", x.fewest(0, 101), -1);
        x.lay(0, 0, 0, 0, 0);
        due.is("something lies on it", x.fewest(0, 0), -1);
        due.is("on the worn one", x.fewest(0, 50), 1);
        x.plan(100);
        due.is("none", x.fewest(0, 0), 0);
        due.is("none, but worn is wrong", x.fewest(0, 101), -1);
        for (int i = 0; i < 8; i++) {
            x.patch(0, 0, 1, 1);
        }
        due.is("eight", x.fewest(0, 0), 1);
        x.patch(0, 0, 1, 1);
        due.is("nine", x.fewest(0, 0), -1);
        x.lay(0, 4, 2, 39, 100);
        due.is("eight again", x.fewest(0, 0), 1);
        x.lift(0, 4);
        x.plan(100);
        due.is("taken", x.take(0), 13);
        due.is("of a taken sail", x.fewest(0, 0), -1);
    }

    // The greatest bolts first, or the greatest pieces first, would not find these.
    private static void promise21FewestOfManyBolts() {
        due.about("21 fewest of many");
        Loft x = new Loft();
        x.bolt(20, 10, 0);
        x.sail(0, 1, 0, 1, 1);
        x.cut(0, 2, 1);
        x.lay(0, 0, 0, 0, 0);
        int[] lengths = {6, 5, 5, 4, 4, 3, 3};
        for (int length : lengths) {
            x.patch(0, 0, 3, length);
        }
        x.bolt(3, 15, 0);
        x.bolt(3, 14, 0);
        due.is("29 places for 30", x.fewest(0, 0), -1);
        x.bolt(2, 200, 0);
        due.is("too narrow", x.fewest(0, 0), -1);
        x.bolt(3, 15, 0);
        due.is("15 and 15", x.fewest(0, 0), 2);
        x.patch(0, 0, 20, 10);
        due.is("nothing broad enough is bare", x.fewest(0, 0), -1);
        x.bolt(20, 40, 0);
        due.is("all on the broad one", x.fewest(0, 0), 1);
        x.undo();
        x.bolt(20, 39, 0);
        due.is("the broad one and another", x.fewest(0, 0), 2);
        Loft y = new Loft();
        y.sail(0, 9, 0, 9, 8);
        y.cut(0, 2, 1);
        for (int b = 0; b < 7; b++) {
            y.bolt(2, 17, 0);
        }
        due.is("seven for eight", y.fewest(0, 0), -1);
        y.bolt(2, 17, 0);
        due.is("eight for eight", y.fewest(0, 0), 8);
        y.bolt(2, 18, 0);
        due.is("two on one", y.fewest(0, 0), 7);
    }

    private static void promise22Mast() {
        due.about("22 mast");
        Loft x = new Loft();
        for (int far : FAR) {
            due.no("k", x.mast(far, 0));
        }
        due.no("k", x.mast(61, 0));
        due.no("load", x.mast(0, -1));
        due.no("load", x.mast(0, LOW));
        due.no("load", x.mast(0, 2000000001));
        due.no("load", x.mast(0, HIGH));
        due.yes("most", x.mast(60, 2000000000));
        due.yes("least", x.mast(0, 0));
        due.is("no act", x.count(2), 0);
        x.sail(0, 10, 0, 10, 10);
        x.cut(0, 5, 1);
        x.set(0, true);
        x.wind(3, 1000);
        due.is("as at first", x.bears(), -1);
        due.yes("mast", x.mast(3, 4999));
        due.is("breaks", x.bears(), 3);
        x.undo();
        x.set(0, true);
        due.is("undo leaves it", x.bears(), 3);
    }

    private static void promise23Wind() {
        due.about("23 wind");
        Loft x = Lofts.plain();
        x.set(0, true);
        int acts = x.count(2);
        for (int far : FAR) {
            due.no("y", x.wind(far, 0));
            due.no("push", x.wind(0, far));
        }
        due.no("y", x.wind(60, 0));
        due.no("push", x.wind(0, 1001));
        due.yes("a strip above all sails", x.wind(59, 1000));
        due.is("push", x.push(59), 0);
        due.yes("wind", x.wind(9, 1000));
        due.is("push", x.push(10), 20000);
        due.yes("calm", x.wind(9, 0));
        due.is("push", x.push(10), 0);
        due.is("no act", x.count(2), acts);
    }

    private static void promise24Set() {
        due.about("24 set");
        Loft x = Lofts.plain();
        due.no("it is so", x.set(0, false));
        due.yes("set", x.set(0, true));
        due.is("told", x.told(0, 5), 1);
        due.no("it is so", x.set(0, true));
        due.yes("not any more", x.set(0, false));
        due.is("told", x.told(0, 5), 0);
        x.sail(0, 5, 0, 5, 5);
        due.no("open", x.set(1, true));
        due.no("no such sail", x.set(2, true));
        for (int far : FAR) {
            due.no("sail", x.set(far, true));
        }
        x.plan(0);
        x.take(0);
        due.no("taken", x.set(0, true));
    }

    private static void promise25Reef() {
        due.about("25 reef");
        Loft x = Lofts.plain();
        due.no("it is there", x.reef(0, 0));
        due.yes("reef", x.reef(0, 10));
        due.is("told", x.told(0, 4), 10);
        due.no("it is there", x.reef(0, 10));
        due.no("above", x.reef(0, 11));
        for (int far : FAR) {
            due.no("sail", x.reef(far, 1));
            due.no("line", x.reef(0, far));
        }
        due.yes("back", x.reef(0, 0));
        x.sail(0, 5, 0, 5, 5);
        due.no("open", x.reef(1, 1));
        x.plan(0);
        x.take(0);
        due.no("taken", x.reef(0, 1));
    }

    private static void promise26Line() {
        due.about("26 line");
        Loft x = Lofts.plain();
        x.sail(0, 5, 0, 5, 5);
        for (int far : FAR) {
            due.is("sail", x.line(far, 1), -1);
            due.is("y", x.line(0, far), -1);
        }
        due.is("y", x.line(0, 0), -1);
        due.is("above", x.line(0, 11), -1);
        due.is("none", x.told(0, 7), 0);
        due.is("first", x.line(0, 1), 1);
        due.is("not above", x.line(0, 1), -1);
        due.is("second", x.line(0, 2), 2);
        due.is("not above", x.line(0, 1), -1);
        due.is("third, at H", x.line(0, 10), 3);
        due.is("fourth", x.line(0, 10), -1);
        due.is("open", x.line(1, 5), 1);
        x.undo();
        due.is("undone", x.line(1, 2), 1);
        due.is("then above", x.line(1, 3), 2);
        Loft y = Lofts.plain();
        for (int line = 1; line <= 3; line++) {
            y.line(0, line);
        }
        due.is("a fourth above", y.line(0, 4), -1);
        Loft taken = Lofts.plain();
        taken.plan(0);
        taken.take(0);
        due.is("taken", taken.line(0, 1), -1);
    }

    private static void promise27Push() {
        due.about("27 push");
        Loft x = Lofts.plain();
        for (int y = 0; y < 60; y++) {
            x.wind(y, y + 1);
        }
        due.is("not set", x.push(3), 0);
        x.set(0, true);
        due.is("the foot", x.push(0), 20);
        due.is("between", x.push(3), 20 * 3 + 20 * 4);
        due.is("the head", x.push(10), 200);
        due.is("above", x.push(11), 0);
        x.sail(0, 1, 0, 2, 60);
        x.cut(1, 20, 1);
        x.set(1, true);
        due.is("two sails", x.push(3), 140 + 2 * 3 + 2 * 4);
        due.is("below the top", x.push(59), 2 * 59 + 3 * 60);
        due.is("the top", x.push(60), 3 * 60);
        due.is("no height", x.push(61), -1);
        for (int far : FAR) {
            due.is("k", x.push(far), -1);
        }
        x.reef(0, 3);
        due.is("a reef at the height", x.push(3), 80 + 14);
        due.is("a reef above", x.push(2), 2 * 2 + 2 * 3);
        due.is("a reef below", x.push(4), 180 + 18);
        x.reef(0, 10);
        due.is("all reefed", x.push(10), 2 * 10 + 2 * 11);
        x.set(0, false);
        due.is("one sail", x.push(3), 14);
        greatPush();
    }

    private static void greatPush() {
        Loft x = new Loft();
        x.wind(0, 1000);
        x.wind(1, 1000);
        for (int s = 0; s < 10; s++) {
            x.sail(-500, 500, -500, 500, 2);
            x.edge(s, 0, 3);
            x.edge(s, 1, 3);
            for (int y = 0; y < 3; y++) {
                x.stand(s, 0, y, -200);
                x.stand(s, 1, y, 200);
            }
            x.cut(s, 20, 1);
            x.set(s, true);
        }
        due.is("the greatest", x.push(1), 56000000);
        x.mast(1, 14000000);
        due.is("bears", x.bears(), -1);
        x.mast(1, 13999999);
        due.is("breaks", x.bears(), 1);
    }

    private static void promise28Bears() {
        due.about("28 bears");
        Loft x = Lofts.plain();
        x.set(0, true);
        x.wind(4, 3);
        due.is("all", x.bears(), -1);
        x.mast(5, 15);
        due.is("just not above", x.bears(), -1);
        x.mast(5, 14);
        due.is("above", x.bears(), 5);
        x.mast(4, 14);
        due.is("the first", x.bears(), 4);
        x.mast(60, 0);
        x.mast(0, 0);
        due.is("no push at all bears", x.bears(), 4);
        x.wind(0, 1);
        due.is("the foot", x.bears(), 0);
        Loft y = new Loft();
        y.sail(0, 1, 0, 1, 60);
        y.cut(0, 20, 1);
        y.set(0, true);
        y.wind(59, 1);
        y.mast(60, 0);
        due.is("the top", y.bears(), 60);
    }

    private static void promise29Least() {
        due.about("29 least");
        Loft x = new Loft();
        for (int s = 0; s < 3; s++) {
            x.sail(0, 10, 0, 10, 10);
            x.cut(s, 5, 1);
        }
        x.set(0, true);
        x.set(2, true);
        x.wind(5, 1);
        due.is("as it is", x.least(), 0);
        x.mast(5, 5);
        due.is("no lines", x.least(), -1);
        x.line(0, 2);
        x.line(0, 6);
        x.line(1, 6);
        x.line(2, 5);
        due.is("the first sail's second", x.least(), 3);
        x.mast(5, 4);
        due.is("not with all", x.least(), -1);
        x.line(2, 9);
        due.is("both twice", x.least(), 4);
        x.reef(2, 5);
        due.is("lines above the reef", x.least(), 3);
        x.reef(2, 7);
        due.is("the line behind the reef's doesn't help more", x.least(), 3);
        x.reef(0, 1);
        due.is("a reef below its lines", x.least(), 3);
        x.reef(0, 6);
        due.is("nothing is left", x.least(), 0);
        due.is("the reef stays", x.told(2, 4), 7);
        x.reef(0, 0);
        x.least();
        due.is("nothing is changed", x.told(0, 4), 0);
        due.is("nor the push", x.push(5), 20);
        leastInThreeRounds();
    }

    private static void leastInThreeRounds() {
        Loft x = new Loft();
        for (int s = 0; s < 10; s++) {
            x.sail(0, 1, 0, 1, 10);
            x.cut(s, 20, 1);
            x.set(s, true);
            for (int line = 1; line <= 3; line++) {
                x.line(s, 3 * line);
            }
        }
        x.wind(8, 2);
        due.is("push", x.push(8), 40);
        for (int load = 10; load >= 0; load--) {
            x.mast(8, load);
            due.is("load " + load, x.least(), load == 10 ? 0 : 20 + 10 - load);
        }
        x.wind(9, 2);
        x.mast(10, 0);
        due.is("no line takes the last strip", x.least(), -1);
    }

    private static void promise30Take() {
        due.about("30 take");
        Loft x = Lofts.plain();
        x.patch(0, 0, 1, 7);
        due.is("not all is laid", x.take(0), -1);
        x.lay(0, 0, 0, 0, 0);
        x.lay(0, 1, 1, 0, 0);
        x.lay(0, 2, 0, 30, 0);
        due.is("the patch isn't laid", x.take(0), -1);
        x.lay(0, 3, 1, 193, 0);
        x.set(0, true);
        for (int far : FAR) {
            due.is("sail", x.take(far), -1);
        }
        due.is("no such sail", x.take(1), -1);
        due.is("take", x.take(0), 4);
        due.is("again", x.take(0), -1);
        due.is("bolts", x.count(0), 6);
        due.is("not set any more", x.told(0, 5), 0);
        int[] lengths = {10, 10, 10, 7};
        for (int b = 2; b < 6; b++) {
            due.is("length of " + b, x.left(b), lengths[b - 2]);
            due.is("from", x.old(b), 0);
            due.no("no row", x.wear(b, 0, 1));
            due.is("worn", x.worn(b, 0), 0);
            due.yes("a row can be told", x.row(b, 1));
        }
        due.is("places stay", x.over(0, 39), 2);
        due.is("places stay", x.left(1), 183);
        due.no("something lies on it", x.row(0, 1));
        widthsAndGramsOfTaken(x);
        takeOfTooMany();
        takeOfTheLongest();
    }

    private static void takeOfTheLongest() {
        Loft x = Lofts.plain();
        x.sail(0, 200, 0, 200, 5);
        x.cut(1, 20, 15);
        due.yes("lay", x.lay(1, 0, 1, 0, 0));
        due.is("take", x.take(1), 1);
        due.is("length", x.left(2), 200);
        x.sail(0, 200, 0, 200, 1);
        x.cut(2, 20, 19);
        due.yes("its width is the breadth", x.lay(2, 0, 2, 0, 0));
        due.is("nothing of it is laid", x.take(0), -1);
        x.patch(2, 0, 1, 1);
        x.plan(0);
        x.lift(2, 0);
        due.is("the first isn't laid", x.take(2), -1);
    }

    private static void widthsAndGramsOfTaken(Loft x) {
        x.sail(0, 1, 0, 1, 1);
        x.cut(1, 2, 1);
        int[] widths = {5, 5, 3, 2};
        float[] grams = {1f, 2f, 1f, 2f};
        for (int b = 0; b < 4; b++) {
            int broad = x.patch(1, 0, widths[b] + 1, 1);
            due.no("too broad for " + b, x.lay(1, broad, 2 + b, 0, 0));
            int fits = x.patch(1, 0, widths[b], 1);
            due.yes("fits on " + b, x.lay(1, fits, 2 + b, 0, 0));
            due.is("weight", x.panel(1, fits, 8), (int) (widths[b] * grams[b]));
        }
        due.is("open", x.take(x.sail(0, 1, 0, 1, 1)), -1);
    }

    private static void takeOfTooMany() {
        Loft x = Lofts.plain();
        for (int i = 3; i < 23; i++) {
            x.patch(0, 0, 1, 1);
        }
        x.plan(0);
        due.is("25 bolts", x.take(0), -1);
        due.is("nothing done", x.told(0, 0), 1);
        due.is("nothing done", x.count(0), 2);
        Loft y = Lofts.plain();
        for (int i = 3; i < 22; i++) {
            y.patch(0, 0, 1, 1);
        }
        y.plan(0);
        due.is("24 bolts", y.take(0), 22);
        due.is("bolts", y.count(0), 24);
        due.yes("undo", y.undo());
        due.is("bolts", y.count(0), 2);
    }

    private static void promise31Old() {
        due.about("31 old");
        Loft x = Lofts.plain();
        x.sail(0, 10, 0, 10, 3);
        x.cut(1, 5, 1);
        x.plan(0);
        due.is("none", x.old(0), -1);
        due.is("no such bolt", x.old(2), -1);
        for (int far : FAR) {
            due.is("bolt", x.old(far), -1);
        }
        due.is("take", x.take(1), 1);
        due.is("from 1", x.old(2), 1);
        x.take(0);
        due.is("from 0", x.old(5), 0);
        x.undo();
        x.undo();
        due.is("undone", x.old(2), -1);
        x.bolt(2, 2, 0);
        due.is("a new one of that number", x.old(2), -1);
    }

    private static void promise32UndoEach() {
        due.about("32 undo");
        Loft x = Lofts.plain();
        x.row(0, 5);
        x.wear(0, 1, 9);
        x.wear(0, 1, 8);
        due.yes("wear", x.undo());
        due.is("worn", x.worn(0, 1), 9);
        x.row(0, 3);
        x.wear(0, 1, 7);
        due.yes("wear", x.undo());
        due.yes("row", x.undo());
        due.is("worn", x.worn(0, 1), 9);
        due.yes("the row is as long as it was", x.wear(0, 4, 1));
        due.no("and no longer", x.wear(0, 5, 1));
        x.sail(0, 10, 0, 10, 10);
        x.edge(1, 1, 11);
        x.stand(1, 1, 2, 3);
        x.edge(1, 1, 2);
        due.yes("edge", x.undo());
        due.is("at", x.at(1, 1, 2), 13);
        x.stand(1, 1, 2, 4);
        due.yes("stand", x.undo());
        due.is("at", x.at(1, 1, 2), 13);
        due.yes("stand", x.undo());
        due.is("at", x.at(1, 1, 2), 10);
        x.cut(1, 5, 1);
        due.yes("cut", x.undo());
        due.is("open", x.told(1, 0) + x.told(1, 1), 0);
        due.yes("still told", x.stand(1, 1, 10, 1));
        undoOnCutSail();
        undoOnMast();
        undoOfPlans();
    }

    private static void undoOfPlans() {
        Loft x = new Loft();
        for (int b = 0; b < 24; b++) {
            x.bolt(2, 200, 0);
        }
        for (int s = 0; s < 10; s++) {
            x.sail(0, 5, 0, 5, 40);
            x.cut(s, 2, 1);
        }
        due.is("plan", x.plan(0), -1);
        due.is("the last", x.panel(9, 39, 6), 9);
        due.yes("undo", x.undo());
        for (int s = 0; s < 10; s++) {
            due.is("nothing lies", x.panel(s, 0, 6) + x.panel(s, 39, 6), -2);
            due.is("all is left", x.left(s), 200);
        }
        x.lay(0, 0, 0, 0, 0);
        for (int round = 0; round < 30; round++) {
            due.yes("lift", x.lift(0, 0));
            due.is("plan", x.plan(0), -1);
            x.lift(9, 39);
            due.is("the last bolt by plan", x.plan(0), -1);
            due.yes("undo", x.undo());
            due.is("only the last one was laid", x.panel(9, 38, 6), 9);
            due.is("it doesn't lie", x.panel(9, 39, 6), -1);
            due.yes("undo", x.undo());
            due.yes("undo", x.undo());
            due.yes("lay", x.lay(0, 0, 23, 195, 0));
            due.yes("set", x.set(0, round % 2 == 0));
        }
    }

    private static void undoOnCutSail() {
        Loft x = Lofts.plain();
        x.narrow(0, 0, 3);
        x.narrow(0, 0, 4);
        due.yes("narrow", x.undo());
        due.is("lets", x.panel(0, 0, 9), 3);
        x.patch(0, 0, 1, 1);
        due.yes("patch", x.undo());
        due.is("patches", x.told(0, 2), 0);
        x.lay(0, 0, 0, 7, 0);
        due.yes("lay", x.undo());
        due.is("bolt", x.panel(0, 0, 6), -1);
        due.is("left", x.left(0), 200);
        x.lay(0, 0, 1, 7, 0);
        x.lift(0, 0);
        due.yes("lift", x.undo());
        due.is("over", x.over(1, 16), 0);
        due.is("place", x.panel(0, 0, 7), 7);
        x.plan(0);
        x.lift(0, 1);
        x.lay(0, 1, 1, 100, 0);
        due.yes("lay", x.undo());
        due.yes("lift", x.undo());
        due.is("bolt", x.panel(0, 1, 6), 0);
        due.yes("plan", x.undo());
        due.is("what was laid ahead stays", x.panel(0, 0, 6), 1);
        due.is("what the plan laid", x.left(0), 200);
        x.plan(0);
        x.set(0, true);
        x.take(0);
        due.yes("take", x.undo());
        due.is("cut", x.told(0, 0), 1);
        due.is("set", x.told(0, 5), 1);
        due.is("bolts", x.count(0), 2);
        x.set(0, false);
        x.take(0);
        due.yes("take", x.undo());
        due.is("not set", x.told(0, 5), 0);
    }

    private static void undoOnMast() {
        Loft x = Lofts.plain();
        x.mast(1, 7);
        x.wind(1, 7);
        x.set(0, true);
        x.reef(0, 3);
        x.reef(0, 1);
        x.line(0, 5);
        due.yes("line", x.undo());
        due.is("lines", x.told(0, 7), 0);
        due.yes("reef", x.undo());
        due.is("reef", x.told(0, 4), 3);
        due.yes("reef", x.undo());
        due.is("the wind is as it is", x.push(1), 140);
        due.is("the mast is as it is", x.bears(), 1);
        due.yes("set", x.undo());
        due.is("push", x.push(1), 0);
        due.yes("cut", x.undo());
        due.yes("sail", x.undo());
        due.is("sails", x.count(1), 0);
        due.is("told", x.told(0, 0), -1);
        due.yes("bolt", x.undo());
        due.yes("bolt", x.undo());
        due.is("bolts", x.count(0), 0);
        due.no("none", x.undo());
        due.is("a bolt of that number", x.bolt(3, 4, 0), 0);
        due.is("is new", x.left(0), 4);
        due.is("a sail of that number", x.sail(1, 2, 1, 2, 3), 0);
        due.is("is new", x.told(0, 8) + x.told(0, 0), 3);
    }

    private static void promise32UndoLimit() {
        due.about("32 undo, 16 acts");
        Loft x = new Loft();
        x.bolt(5, 100, 0);
        x.row(0, 100);
        for (int v = 1; v <= 30; v++) {
            x.wear(0, 50, v);
            due.is("acts", x.count(2), Math.min(16, v + 2));
        }
        for (int v = 29; v >= 14; v--) {
            due.yes("undo", x.undo());
            due.is("worn", x.worn(0, 50), v);
        }
        due.no("17th", x.undo());
        due.is("worn", x.worn(0, 50), 14);
        due.is("acts", x.count(2), 0);
        x.row(0, 10);
        due.is("acts", x.count(2), 1);
        due.yes("undo", x.undo());
        due.is("worn", x.worn(0, 50), 14);
        due.no("none", x.undo());
    }

    private static void promise33Count() {
        due.about("33 count");
        Loft x = Lofts.plain();
        due.is("bolts", x.count(0), 2);
        due.is("sails", x.count(1), 1);
        due.is("acts", x.count(2), 4);
        due.is("others", x.count(3), -1);
        for (int far : FAR) {
            due.is("others", x.count(far), -1);
        }
        x.undo();
        due.is("acts", x.count(2), 3);
        x.undo();
        due.is("sails", x.count(1), 0);
        x.undo();
        due.is("bolts", x.count(0), 1);
        x.bolt(0, 0, 0);
        due.is("what is refused is no act", x.count(2), 1);
    }
}
