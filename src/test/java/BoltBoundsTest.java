/** The bounds of BOLTS: promises 1 to 5, 18, 19 and 31. */
public final class BoltBoundsTest {
    private static final int ONE_GRAM = Lofts.bits(1f);
    private static final Bounds.Start BARE = Lofts::bare;
    private static final Bounds.Start RICH = Lofts::rich;

    private static final Due due = new Due();
    private static final Bounds bounds = new Bounds(due);

    public static void main(String[] args) {
        aNewObjectHasNothing();
        widthOfABolt();
        widthIsAsTold();
        lengthOfABolt();
        lengthIsAsTold();
        leastAndMostGrams();
        gramsThatAreNone();
        bolts24();
        bolts24ByTake();
        placesOfARow();
        rowOfNoSuchBolt();
        rowOfWhatSomethingLiesOn();
        rowIsAll0();
        rowIsAll0AfterManyActs();
        rowOf0IsMissing();
        placesToWear();
        howFarToWear();
        wearOfNoSuchBolt();
        wearWhereTheRowTellsNothing();
        wearOfWhatSomethingLiesOn();
        placesOfWorn();
        wornBehindTheRow();
        wornOfNoSuchBolt();
        leftFromAllTo0();
        leftOfNoSuchBolt();
        overAtTheEndsOfAPiece();
        overOfNoSuchPlace();
        oldOfTheFirstAndTheLast();
        due.end();
    }

    private static void aNewObjectHasNothing() {
        due.about("1 no bolts, no sails");
        bounds.nothing("bolts", BARE, x -> x.count(0), 0);
        bounds.nothing("sails", BARE, x -> x.count(1), 0);
        bounds.nothing("acts", BARE, x -> x.count(2), 0);
        bounds.nothing("row", BARE, x -> Bounds.bit(x.row(0, 0)), 0);
        bounds.nothing("wear", BARE, x -> Bounds.bit(x.wear(0, 0, 0)), 0);
        bounds.nothing("worn", BARE, x -> x.worn(0, 0), -1);
        bounds.nothing("left", BARE, x -> x.left(0), -1);
        bounds.nothing("over", BARE, x -> x.over(0, 0), -1);
        bounds.nothing("old", BARE, x -> x.old(0), -1);
        bounds.nothing("edge", BARE, x -> Bounds.bit(x.edge(0, 0, 0)), 0);
        bounds.nothing("stand", BARE, x -> Bounds.bit(x.stand(0, 0, 0, 0)), 0);
        bounds.nothing("at", BARE, x -> x.at(0, 0, 0), -10000);
        bounds.nothing("cut", BARE, x -> x.cut(0, 5, 1), -1);
        bounds.nothing("narrow", BARE, x -> Bounds.bit(x.narrow(0, 0, 0)), 0);
        bounds.nothing("patch", BARE, x -> x.patch(0, 0, 1, 1), -1);
        bounds.nothing("told", BARE, x -> x.told(0, 0), -1);
        bounds.nothing("panel", BARE, x -> x.panel(0, 0, 0), -1);
        bounds.nothing("full", BARE, x -> x.full(0, 0), -1);
        bounds.nothing("lay", BARE, x -> Bounds.bit(x.lay(0, 0, 0, 0, 0)), 0);
        bounds.nothing("lift", BARE, x -> Bounds.bit(x.lift(0, 0)), 0);
        bounds.nothing("plan", BARE, x -> x.plan(0), -1);
        bounds.nothing("fewest", BARE, x -> x.fewest(0, 0), -1);
        bounds.nothing("set", BARE, x -> Bounds.bit(x.set(0, true)), 0);
        bounds.nothing("set", BARE, x -> Bounds.bit(x.set(0, false)), 0);
        bounds.nothing("reef", BARE, x -> Bounds.bit(x.reef(0, 1)), 0);
        bounds.nothing("line", BARE, x -> x.line(0, 1), -1);
        bounds.nothing("bears", BARE, x -> x.bears(), -1);
        bounds.nothing("least", BARE, x -> x.least(), 0);
        bounds.nothing("take", BARE, x -> x.take(0), -1);
        bounds.nothing("undo", BARE, x -> Bounds.bit(x.undo()), 0);
    }

    private static void widthOfABolt() {
        due.about("2 a WIDTH of 2 to 20");
        bounds.range("width", RICH, (x, v) -> x.bolt(v, 10, ONE_GRAM), 2, 20, 6, -1);
        bounds.range("width", BARE, (x, v) -> x.bolt(v, 10, ONE_GRAM), 2, 20, 0, -1);
    }

    private static void widthIsAsTold() {
        due.about("2 a bolt is as wide as told");
        for (int width = 2; width <= 20; width++) {
            Loft x = Lofts.plain();
            int bolt = x.bolt(width, 10, ONE_GRAM);
            int fits = x.patch(0, 0, width, 1);
            due.yes("breadth " + width, x.lay(0, fits, bolt, 0, 0));
            int broad = x.patch(0, 0, width + 1, 1);
            due.no("breadth " + (width + 1), x.lay(0, broad, bolt, 1, 0));
        }
    }

    private static void lengthOfABolt() {
        due.about("2 a LENGTH of 1 to 200");
        bounds.range("length", RICH, (x, v) -> x.bolt(5, v, ONE_GRAM), 1, 200, 6, -1);
        bounds.range("length", BARE, (x, v) -> x.bolt(5, v, ONE_GRAM), 1, 200, 0, -1);
    }

    private static void lengthIsAsTold() {
        due.about("2 a bolt is as long as told");
        for (int length : new int[] {1, 2, 100, 199, 200}) {
            Loft x = Lofts.plain();
            int bolt = x.bolt(20, length, ONE_GRAM);
            due.is("left", x.left(bolt), length);
            due.is("the last place", x.worn(bolt, length - 1), 0);
            due.is("no place", x.worn(bolt, length), -1);
            int i = x.patch(0, 0, 1, 1);
            due.no("lay behind", x.lay(0, i, bolt, length, 0));
            due.yes("lay on the last", x.lay(0, i, bolt, length - 1, 0));
        }
    }

    private static void leastAndMostGrams() {
        due.about("2 GRAMS of 0 to 1,000");
        float[] right = {0f, Float.MIN_VALUE, Float.MIN_NORMAL, 1f, Math.nextDown(1000f), 1000f};
        for (float grams : right) {
            bounds.act("grams " + grams, RICH, x -> x.bolt(5, 10, Lofts.bits(grams)), 6);
        }
        float[] wrong = {-Float.MIN_VALUE, -1f, -1000f, Math.nextUp(1000f), 1001f, Float.MAX_VALUE};
        for (float grams : wrong) {
            bounds.nothing("grams " + grams, RICH, x -> x.bolt(5, 10, Lofts.bits(grams)), -1);
        }
    }

    private static void gramsThatAreNone() {
        due.about("2 what is no number");
        int[] wrong = {0x7F800000, 0x7F800001, 0x7FC00000, 0x7FFFFFFF, 0xFF800000, 0xFF800001,
            0xFFC00000, 0xFFFFFFFF};
        for (int grams : wrong) {
            bounds.nothing(Integer.toHexString(grams), RICH, x -> x.bolt(5, 10, grams), -1);
            bounds.nothing(Integer.toHexString(grams), BARE, x -> x.bolt(5, 10, grams), -1);
        }
    }

    private static Loft bolts(int many) {
        Loft x = new Loft();
        for (int b = 0; b < many; b++) {
            x.bolt(2 + b % 19, 1 + b, ONE_GRAM);
        }
        return x;
    }

    private static void bolts24() {
        due.about("2 there are 24");
        bounds.act("the 24th", () -> bolts(23), x -> x.bolt(5, 10, ONE_GRAM), 23);
        bounds.nothing("the 25th", () -> bolts(24), x -> x.bolt(5, 10, ONE_GRAM), -1);
        bounds.nothing("the 25th", Lofts::fullOfBolts, x -> x.bolt(5, 10, ONE_GRAM), -1);
        Loft x = bolts(24);
        x.undo();
        due.is("one less", x.count(0), 23);
        due.is("the 24th again", x.bolt(20, 7, ONE_GRAM), 23);
        due.is("as it is now", x.left(23), 7);
    }

    private static void bolts24ByTake() {
        due.about("2 there are 24, by take");
        Bounds.Start taken = () -> {
            Loft x = Lofts.plain();
            for (int b = 2; b < 21; b++) {
                x.bolt(2, 1, ONE_GRAM);
            }
            x.plan(0);
            x.take(0);
            return x;
        };
        due.is("bolts", taken.make().count(0), 24);
        bounds.nothing("the 25th", taken, x -> x.bolt(5, 10, ONE_GRAM), -1);
    }

    private static void placesOfARow() {
        due.about("3 0 to its LENGTH");
        bounds.yesRange("n", RICH, (x, v) -> Bounds.bit(x.row(1, v)), 0, 30);
        bounds.yesRange("n, no ROW yet", RICH, (x, v) -> Bounds.bit(x.row(2, v)), 0, 12);
        bounds.yesRange("n, of an old one", RICH, (x, v) -> Bounds.bit(x.row(5, v)), 0, 10);
        Bounds.Start ends = () -> {
            Loft x = new Loft();
            x.bolt(2, 1, 0);
            x.bolt(2, 200, 0);
            return x;
        };
        bounds.yesRange("n, of the shortest", ends, (x, v) -> Bounds.bit(x.row(0, v)), 0, 1);
        bounds.yesRange("n, of the longest", ends, (x, v) -> Bounds.bit(x.row(1, v)), 0, 200);
    }

    private static void rowOfNoSuchBolt() {
        due.about("3 a bolt's");
        bounds.outside("bolt", RICH, (x, v) -> Bounds.bit(x.row(v, 1)), 0, 5, 0);
        bounds.outside("bolt", RICH, (x, v) -> Bounds.bit(x.row(v, 0)), 0, 5, 0);
        bounds.outside("bolt", Lofts::fullOfBolts, (x, v) -> Bounds.bit(x.row(v, 0)), 0, 23, 0);
        bounds.act("the last", RICH, x -> Bounds.bit(x.row(5, 1)), 1);
    }

    /** A bolt with a ROW, and a piece of one place on its last. */
    private static Loft onePlaceLaid() {
        Loft x = Lofts.plain();
        x.row(0, 200);
        x.wear(0, 7, 30);
        x.patch(0, 0, 1, 1);
        x.lay(0, 3, 0, 199, 0);
        return x;
    }

    private static void rowOfWhatSomethingLiesOn() {
        due.about("3 something lies on it");
        for (int n : new int[] {0, 1, 10, 200}) {
            bounds.nothing("n " + n, BoltBoundsTest::onePlaceLaid, x -> Bounds.bit(x.row(0, n)), 0);
            bounds.nothing("n " + n, RICH, x -> Bounds.bit(x.row(0, n)), 0);
            bounds.nothing("n " + n, RICH, x -> Bounds.bit(x.row(3, n)), 0);
        }
        Bounds.Start lifted = () -> {
            Loft x = onePlaceLaid();
            x.lift(0, 3);
            return x;
        };
        bounds.act("nothing lies on it any more", lifted, x -> Bounds.bit(x.row(0, 10)), 1);
        bounds.act("on another", BoltBoundsTest::onePlaceLaid, x -> Bounds.bit(x.row(1, 200)), 1);
        Loft x = onePlaceLaid();
        x.lay(0, 0, 1, 0, 0);
        x.lay(0, 1, 1, 10, 0);
        x.lay(0, 2, 1, 20, 0);
        x.take(0);
        due.no("what was taken still lies", x.row(0, 1));
    }

    private static void rowIsAll0() {
        due.about("3 all 0");
        for (int n : new int[] {1, 25, 30}) {
            Loft x = Lofts.rich();
            due.yes("row", x.row(1, n));
            for (int k = 0; k < 30; k++) {
                due.is("worn " + k, x.worn(1, k), 0);
            }
        }
    }

    private static void rowIsAll0AfterManyActs() {
        due.about("3 all 0, whatever rows there were");
        Loft x = new Loft();
        x.bolt(5, 200, 0);
        for (int round = 0; round < 40; round++) {
            int k = round % 3 * 99;
            due.yes("row", x.row(0, 200));
            for (int told = 0; told < 200; told += 99) {
                due.is("worn " + told, x.worn(0, told), 0);
            }
            due.yes("wear", x.wear(0, k, 100));
            due.is("worn", x.worn(0, k), 100);
        }
    }

    private static void rowOf0IsMissing() {
        due.about("3 0: it's missing");
        Loft x = Lofts.rich();
        due.yes("row of 1", x.row(1, 1));
        due.yes("place 0 is told", x.wear(1, 0, 5));
        due.yes("row of 0", x.row(1, 0));
        due.no("place 0 isn't told", x.wear(1, 0, 5));
        due.is("what it doesn't tell is 0", x.worn(1, 0), 0);
        due.yes("of a missing one", x.row(2, 0));
        due.no("place 0 isn't told", x.wear(2, 0, 5));
    }

    private static void placesToWear() {
        due.about("4 a place that the ROW tells");
        bounds.yesRange("k", RICH, (x, v) -> Bounds.bit(x.wear(1, v, 7)), 0, 24);
        Bounds.Start whole = () -> {
            Loft x = new Loft();
            x.bolt(2, 200, 0);
            x.row(0, 200);
            return x;
        };
        bounds.yesRange("k", whole, (x, v) -> Bounds.bit(x.wear(0, v, 7)), 0, 199);
        Bounds.Start one = () -> {
            Loft x = new Loft();
            x.bolt(2, 200, 0);
            x.row(0, 1);
            return x;
        };
        bounds.yesRange("k", one, (x, v) -> Bounds.bit(x.wear(0, v, 7)), 0, 0);
    }

    private static void howFarToWear() {
        due.about("4 v of 0 to 100");
        bounds.yesRange("v", RICH, (x, v) -> Bounds.bit(x.wear(1, 24, v)), 0, 100);
        for (int v : new int[] {0, 1, 99, 100}) {
            Loft x = Lofts.rich();
            due.yes("wear " + v, x.wear(1, 24, v));
            due.is("worn", x.worn(1, 24), v);
            due.is("ahead", x.worn(1, 23), 0);
            due.is("behind", x.worn(1, 25), 0);
        }
    }

    private static void wearOfNoSuchBolt() {
        due.about("4 a bolt's ROW");
        bounds.outside("bolt", RICH, (x, v) -> Bounds.bit(x.wear(v, 0, 1)), 0, 5, 0);
        bounds.outside("bolt", Lofts::fullOfBolts, (x, v) -> Bounds.bit(x.wear(v, 0, 1)), 0, 23, 0);
    }

    private static void wearWhereTheRowTellsNothing() {
        due.about("4 the ROW doesn't tell that place");
        bounds.nothing("the first behind it", RICH, x -> Bounds.bit(x.wear(1, 25, 1)), 0);
        bounds.nothing("the bolt's last", RICH, x -> Bounds.bit(x.wear(1, 29, 1)), 0);
        bounds.nothing("a missing one, first", RICH, x -> Bounds.bit(x.wear(2, 0, 1)), 0);
        bounds.nothing("a missing one, last", RICH, x -> Bounds.bit(x.wear(2, 11, 1)), 0);
        bounds.nothing("an old one has none", RICH, x -> Bounds.bit(x.wear(4, 0, 1)), 0);
        Bounds.Start shorter = () -> {
            Loft x = Lofts.rich();
            x.row(1, 4);
            return x;
        };
        bounds.act("the last of a shorter one", shorter, x -> Bounds.bit(x.wear(1, 3, 1)), 1);
        bounds.nothing("the longer one's", shorter, x -> Bounds.bit(x.wear(1, 4, 1)), 0);
    }

    private static void wearOfWhatSomethingLiesOn() {
        due.about("4 something lies on the bolt");
        Bounds.Start laid = BoltBoundsTest::onePlaceLaid;
        for (int k : new int[] {0, 7, 198, 199}) {
            bounds.nothing("k " + k, laid, x -> Bounds.bit(x.wear(0, k, 1)), 0);
        }
        Bounds.Start lifted = () -> {
            Loft x = onePlaceLaid();
            x.lift(0, 3);
            return x;
        };
        bounds.act("not any more", lifted, x -> Bounds.bit(x.wear(0, 199, 1)), 1);
    }

    private static void placesOfWorn() {
        due.about("5 a place of 0 to LENGTH - 1");
        bounds.outside("k", RICH, (x, v) -> x.worn(1, v), 0, 29, -1);
        bounds.outside("k", RICH, (x, v) -> x.worn(0, v), 0, 199, -1);
        bounds.outside("k", RICH, (x, v) -> x.worn(4, v), 0, 9, -1);
        bounds.nothing("the first", RICH, x -> x.worn(1, 0), 0);
        bounds.nothing("the last", RICH, x -> x.worn(1, 29), 0);
        bounds.nothing("the longest bolt's last", RICH, x -> x.worn(0, 199), 0);
        bounds.nothing("an old bolt's last", RICH, x -> x.worn(4, 9), 0);
    }

    private static void wornBehindTheRow() {
        due.about("5 what the ROW doesn't tell is 0");
        bounds.nothing("the ROW's last", RICH, x -> x.worn(1, 24), 60);
        bounds.nothing("the first behind", RICH, x -> x.worn(1, 25), 0);
        bounds.nothing("the most worn", RICH, x -> x.worn(1, 3), 100);
        bounds.nothing("a missing one", RICH, x -> x.worn(2, 0), 0);
        Bounds.Start whole = () -> {
            Loft x = Lofts.rich();
            x.row(1, 30);
            x.wear(1, 29, 100);
            return x;
        };
        bounds.nothing("a ROW of the whole LENGTH", whole, x -> x.worn(1, 29), 100);
        bounds.nothing("behind both", whole, x -> x.worn(1, 30), -1);
        Loft x = Lofts.rich();
        x.row(1, 3);
        x.row(1, 30);
        due.is("an older ROW tells nothing", x.worn(1, 24), 0);
    }

    private static void wornOfNoSuchBolt() {
        due.about("5 no such bolt");
        bounds.outside("bolt", RICH, (x, v) -> x.worn(v, 0), 0, 5, -1);
        bounds.nothing("the last", RICH, x -> x.worn(5, 0), 0);
        bounds.outside("bolt", Lofts::fullOfBolts, (x, v) -> x.worn(v, 0), 0, 23, -1);
    }

    private static void leftFromAllTo0() {
        due.about("18 places that nothing lies on");
        Loft x = Lofts.plain();
        x.bolt(5, 20, 0);
        due.is("all", x.left(2), 20);
        x.lay(0, 0, 2, 0, 0);
        due.is("half", x.left(2), 10);
        x.lay(0, 1, 2, 10, 0);
        due.is("none", x.left(2), 0);
        x.lift(0, 0);
        due.is("half", x.left(2), 10);
        x.undo();
        due.is("none again", x.left(2), 0);
        x.bolt(2, 1, 0);
        x.bolt(2, 200, 0);
        due.is("the shortest", x.left(3), 1);
        due.is("the longest", x.left(4), 200);
    }

    private static void leftOfNoSuchBolt() {
        due.about("18 no such bolt");
        bounds.outside("bolt", RICH, (x, v) -> x.left(v), 0, 5, -1);
        bounds.outside("bolt", Lofts::fullOfBolts, (x, v) -> x.left(v), 0, 23, -1);
        bounds.nothing("the first", RICH, x -> x.left(0), 200 - 30 - 10);
        bounds.nothing("the last", RICH, x -> x.left(5), 10);
    }

    private static void overAtTheEndsOfAPiece() {
        due.about("19 100 times the sail and i");
        bounds.nothing("a piece's first place", RICH, x -> x.over(0, 100), 100);
        bounds.nothing("its last", RICH, x -> x.over(0, 109), 100);
        bounds.nothing("ahead of it", RICH, x -> x.over(0, 99), -1);
        bounds.nothing("behind it", RICH, x -> x.over(0, 110), -1);
        bounds.nothing("sail 0, i 0", RICH, x -> x.over(0, 0), 0);
        bounds.nothing("its last", RICH, x -> x.over(0, 9), 0);
        bounds.nothing("the next one's first", RICH, x -> x.over(0, 10), 1);
        Loft x = Lofts.fullOfSails();
        for (int i = 1; i < 40; i++) {
            x.patch(9, 0, 1, 1);
        }
        x.lay(9, 39, 0, 199, 0);
        due.is("sail 9, i 39", x.over(0, 199), 939);
    }

    private static void overOfNoSuchPlace() {
        due.about("19 no such place");
        bounds.outside("k", RICH, (x, v) -> x.over(0, v), 0, 199, -1);
        bounds.outside("k, all laid on", RICH, (x, v) -> x.over(3, v), 0, 9, -1);
        bounds.nothing("the last", RICH, x -> x.over(3, 9), 101);
        bounds.outside("bolt", RICH, (x, v) -> x.over(v, 0), 0, 5, -1);
        bounds.outside("bolt", Lofts::fullOfBolts, (x, v) -> x.over(v, 0), 0, 23, -1);
        bounds.nothing("the last bolt", RICH, x -> x.over(5, 0), -1);
    }

    private static void oldOfTheFirstAndTheLast() {
        due.about("31 none, or no such bolt");
        bounds.outside("bolt", RICH, (x, v) -> x.old(v), 0, 5, -1);
        bounds.nothing("one that came from none", RICH, x -> x.old(2), -1);
        bounds.nothing("the first that came from sail 0", RICH, x -> x.old(3), 0);
        bounds.nothing("the last", RICH, x -> x.old(5), 0);
        Loft x = Lofts.fullOfSails();
        x.plan(0);
        due.is("take", x.take(9), 1);
        due.is("from sail 9", x.old(1), 9);
        due.is("no such bolt", x.old(2), -1);
        x.undo();
        due.is("no such bolt", x.old(1), -1);
    }
}
