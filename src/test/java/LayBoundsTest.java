/** The bounds of LAYING: promises 16, 17, 20 and 21. */
public final class LayBoundsTest {
    private static final Bounds.Start RICH = Lofts::rich;
    private static final Bounds.Start PLAIN = Lofts::plain;
    private static final Bounds.Start WORN = LayBoundsTest::worn;

    private static final Due due = new Due();
    private static final Bounds bounds = new Bounds(due);

    public static void main(String[] args) {
        placesToLayOn();
        noPlaceForWhatIsLonger();
        breadthAtMostTheWidth();
        besideWhatLies();
        amongWhatLies();
        wornAtMostAsTold();
        wornIsLookedAtUnderThePieceAlone();
        wornOf0To100();
        layOfWhatIsNotCut();
        layOfNoSuchPiece();
        layOnNoSuchBolt();
        layOfWhatIsLaidAlready();
        layOnWhatATakenSailHas();
        liftOfWhatIsNotCut();
        liftOfNoSuchPiece();
        liftOfWhatIsNotLaid();
        planOfNoSuchWorn();
        planOfNothing();
        planThatLaysNothing();
        planUpToTheFirstThatNoneTakes();
        planAtTheLeastPlace();
        planOnTheFirstBolt();
        planOfWornPlaces();
        planOfAllThereCanBe();
        planByNumbers();
        fewestOfNoSuchWorn();
        fewestOfWhatIsNotCut();
        fewestOfNone();
        fewestOfMoreThan8();
        fewestOnWhatNothingLies();
        fewestOnWornBolts();
        fewestOfJustEnough();
        fewestOfAllBolts();
        fewestIsTheLeast();
        due.end();
    }

    private static void placesToLayOn() {
        due.about("16 p is 0 at least, p and its length at most the LENGTH");
        bounds.yesRange("place", PLAIN, (x, v) -> Bounds.bit(x.lay(0, 0, 1, v, 0)), 0, 190);
        bounds.yesRange("place", RICH, (x, v) -> Bounds.bit(x.lay(1, 3, 2, v, 0)), 0, 5);
        Bounds.Start justFits = () -> {
            Loft x = Lofts.plain();
            x.bolt(5, 10, 0);
            return x;
        };
        bounds.yesRange("place", justFits, (x, v) -> Bounds.bit(x.lay(0, 0, 2, v, 0)), 0, 0);
    }

    private static void noPlaceForWhatIsLonger() {
        due.about("16 its length at most the LENGTH");
        for (int length = 10; length <= 12; length++) {
            int wide = length;
            Bounds.Start start = () -> {
                Loft x = new Loft();
                x.bolt(5, 11, 0);
                x.bolt(5, 200, 0);
                x.sail(0, wide, 0, wide, 4);
                x.cut(0, 5, 1);
                return x;
            };
            if (length <= 11) {
                bounds.act("length " + length, start, x -> Bounds.bit(x.lay(0, 0, 0, 0, 0)), 1);
            } else {
                bounds.nothing("length " + length, start, x -> Bounds.bit(x.lay(0, 0, 0, 0, 0)), 0);
                bounds.nothing("length " + length, start, x -> Bounds.bit(x.lay(0, 0, 0, -1, 0)), 0);
            }
        }
        for (int wide : new int[] {200, 201, 1000}) {
            Loft x = new Loft();
            x.bolt(20, 200, 0);
            x.sail(-500, wide - 500, -500, wide - 500, 4);
            x.cut(0, 5, 1);
            due.is("length " + wide, Bounds.bit(x.lay(0, 0, 0, 0, 100)), wide == 200 ? 1 : 0);
        }
    }

    private static void breadthAtMostTheWidth() {
        due.about("16 its breadth is at most the WIDTH");
        Bounds.Start start = () -> {
            Loft x = Lofts.plain();
            for (int width = 4; width <= 6; width++) {
                x.bolt(width, 50, 0);
            }
            x.patch(0, 0, 4, 1);
            x.patch(0, 0, 5, 1);
            return x;
        };
        bounds.nothing("PANEL, breadth less 1", start, x -> Bounds.bit(x.lay(0, 0, 2, 0, 0)), 0);
        bounds.act("PANEL, its breadth", start, x -> Bounds.bit(x.lay(0, 0, 3, 0, 0)), 1);
        bounds.act("PANEL, more", start, x -> Bounds.bit(x.lay(0, 0, 4, 0, 0)), 1);
        bounds.act("the lower last PANEL", start, x -> Bounds.bit(x.lay(0, 2, 2, 0, 0)), 1);
        bounds.act("PATCH, its breadth", start, x -> Bounds.bit(x.lay(0, 3, 2, 0, 0)), 1);
        bounds.nothing("PATCH, breadth less 1", start, x -> Bounds.bit(x.lay(0, 4, 2, 0, 0)), 0);
    }

    /** PANEL 0 lies on places 50 to 59 of bolt 0. */
    private static Loft oneLies() {
        Loft x = Lofts.plain();
        x.lay(0, 0, 0, 50, 0);
        return x;
    }

    private static void besideWhatLies() {
        due.about("16 no other one has a place of p up to p + length - 1");
        Bounds.Start start = LayBoundsTest::oneLies;
        bounds.act("up to it", start, x -> Bounds.bit(x.lay(0, 1, 0, 40, 0)), 1);
        bounds.act("behind it", start, x -> Bounds.bit(x.lay(0, 1, 0, 60, 0)), 1);
        for (int place : new int[] {41, 45, 50, 55, 59}) {
            bounds.nothing("at " + place, start, x -> Bounds.bit(x.lay(0, 1, 0, place, 100)), 0);
        }
        bounds.act("on another bolt", start, x -> Bounds.bit(x.lay(0, 1, 1, 50, 0)), 1);
    }

    private static void amongWhatLies() {
        due.about("16 no other one, of any sail");
        Bounds.Start start = () -> {
            Loft x = oneLies();
            x.sail(0, 30, 0, 30, 4);
            x.cut(1, 5, 1);
            x.patch(1, 0, 1, 1);
            return x;
        };
        bounds.nothing("all around it", start, x -> Bounds.bit(x.lay(1, 0, 0, 40, 0)), 0);
        bounds.nothing("within it", start, x -> Bounds.bit(x.lay(1, 1, 0, 55, 0)), 0);
        bounds.nothing("on its first", start, x -> Bounds.bit(x.lay(1, 1, 0, 50, 0)), 0);
        bounds.nothing("on its last", start, x -> Bounds.bit(x.lay(1, 1, 0, 59, 0)), 0);
        bounds.act("ahead of it", start, x -> Bounds.bit(x.lay(1, 0, 0, 20, 0)), 1);
        bounds.act("behind it", start, x -> Bounds.bit(x.lay(1, 0, 0, 60, 0)), 1);
        bounds.nothing("over its first", start, x -> Bounds.bit(x.lay(1, 0, 0, 21, 0)), 0);
    }

    /** Bolt 2 is worn 40 at its place 20, and 100 at 45, the ROW's last. */
    private static Loft worn() {
        Loft x = Lofts.plain();
        x.bolt(5, 60, 0);
        x.row(2, 46);
        x.wear(2, 20, 40);
        x.wear(2, 45, 100);
        return x;
    }

    private static void wornAtMostAsTold() {
        due.about("16 all these are worn at most as told");
        for (int place : new int[] {11, 15, 20}) {
            bounds.nothing("39 at " + place, WORN, x -> Bounds.bit(x.lay(0, 0, 2, place, 39)), 0);
            bounds.nothing("0 at " + place, WORN, x -> Bounds.bit(x.lay(0, 0, 2, place, 0)), 0);
            bounds.act("40 at " + place, WORN, x -> Bounds.bit(x.lay(0, 0, 2, place, 40)), 1);
        }
        for (int place : new int[] {36, 40, 45}) {
            bounds.nothing("99 at " + place, WORN, x -> Bounds.bit(x.lay(0, 0, 2, place, 99)), 0);
            bounds.act("100 at " + place, WORN, x -> Bounds.bit(x.lay(0, 0, 2, place, 100)), 1);
        }
    }

    private static void wornIsLookedAtUnderThePieceAlone() {
        due.about("16 all these, and no others");
        for (int place : new int[] {0, 10, 21, 35, 46, 50}) {
            bounds.act("0 at " + place, WORN, x -> Bounds.bit(x.lay(0, 0, 2, place, 0)), 1);
        }
    }

    private static void wornOf0To100() {
        due.about("16 worn of 0 to 100");
        bounds.yesRange("worn", PLAIN, (x, v) -> Bounds.bit(x.lay(0, 0, 0, 5, v)), 0, 100);
        bounds.yesRange("worn", RICH, (x, v) -> Bounds.bit(x.lay(1, 3, 2, 5, v)), 0, 100);
    }

    private static void layOfWhatIsNotCut() {
        due.about("16 of a sail that is CUT");
        bounds.outside("sail", RICH, (x, v) -> Bounds.bit(x.lay(v, 2, 0, 50, 100)), 0, 2, 0);
        bounds.outside("sail", Lofts::fullOfSails, (x, v) -> Bounds.bit(x.lay(v, 0, 0, 0, 0)), 0, 9, 0);
        bounds.nothing("OPEN", RICH, x -> Bounds.bit(x.lay(2, 0, 0, 50, 100)), 0);
        bounds.nothing("TAKEN", RICH, x -> Bounds.bit(x.lay(0, 0, 0, 50, 100)), 0);
        bounds.act("CUT", RICH, x -> Bounds.bit(x.lay(1, 2, 0, 50, 100)), 1);
    }

    private static void layOfNoSuchPiece() {
        due.about("16 PANEL or PATCH i");
        bounds.outside("i", RICH, (x, v) -> Bounds.bit(x.lay(1, v, 0, 50, 100)), 0, 3, 0);
        bounds.yesRange("i", PLAIN, (x, v) -> Bounds.bit(x.lay(0, v, 0, 50, 100)), 0, 2);
        Bounds.Start full = () -> {
            Loft x = Lofts.plain();
            for (int i = 3; i < 40; i++) {
                x.patch(0, 0, 1, 1);
            }
            return x;
        };
        bounds.yesRange("i of 40", full, (x, v) -> Bounds.bit(x.lay(0, v, 0, 50, 100)), 0, 39);
    }

    private static void layOnNoSuchBolt() {
        due.about("16 on a bolt");
        bounds.outside("bolt", RICH, (x, v) -> Bounds.bit(x.lay(1, 3, v, 0, 100)), 0, 5, 0);
        bounds.yesRange("bolt", PLAIN, (x, v) -> Bounds.bit(x.lay(0, 0, v, 0, 100)), 0, 1);
        bounds.act("the last", RICH, x -> Bounds.bit(x.lay(1, 3, 5, 0, 100)), 1);
        Bounds.Start full = () -> {
            Loft x = Lofts.fullOfBolts();
            x.patch(0, 0, 1, 1);
            return x;
        };
        bounds.yesRange("bolt of 24", full, (x, v) -> Bounds.bit(x.lay(0, 1, v, 0, 100)), 0, 23);
    }

    private static void layOfWhatIsLaidAlready() {
        due.about("16 it is laid already");
        bounds.nothing("there", RICH, x -> Bounds.bit(x.lay(1, 0, 0, 100, 100)), 0);
        bounds.nothing("elsewhere on that bolt", RICH, x -> Bounds.bit(x.lay(1, 0, 0, 150, 100)), 0);
        bounds.nothing("one place on", RICH, x -> Bounds.bit(x.lay(1, 0, 0, 101, 100)), 0);
        bounds.nothing("on another", RICH, x -> Bounds.bit(x.lay(1, 0, 1, 4, 0)), 0);
        Bounds.Start lifted = () -> {
            Loft x = Lofts.rich();
            x.lift(1, 0);
            return x;
        };
        bounds.act("lifted", lifted, x -> Bounds.bit(x.lay(1, 0, 0, 101, 0)), 1);
    }

    private static void layOnWhatATakenSailHas() {
        due.about("16 places of a TAKEN sail");
        bounds.nothing("its last place", RICH, x -> Bounds.bit(x.lay(1, 3, 0, 29, 100)), 0);
        bounds.nothing("its first places", RICH, x -> Bounds.bit(x.lay(1, 3, 0, 0, 100)), 0);
        bounds.act("behind it", RICH, x -> Bounds.bit(x.lay(1, 3, 0, 30, 100)), 1);
    }

    private static void liftOfWhatIsNotCut() {
        due.about("17 no such sail that is CUT");
        bounds.outside("sail", RICH, (x, v) -> Bounds.bit(x.lift(v, 0)), 0, 2, 0);
        bounds.outside("sail", Lofts::fullOfSails, (x, v) -> Bounds.bit(x.lift(v, 0)), 0, 9, 0);
        bounds.nothing("OPEN", RICH, x -> Bounds.bit(x.lift(2, 0)), 0);
        bounds.nothing("TAKEN", RICH, x -> Bounds.bit(x.lift(0, 0)), 0);
        bounds.nothing("TAKEN, its last", RICH, x -> Bounds.bit(x.lift(0, 2)), 0);
    }

    private static void liftOfNoSuchPiece() {
        due.about("17 PANEL or PATCH i");
        Bounds.Start allLaid = () -> {
            Loft x = Lofts.rich();
            x.plan(100);
            return x;
        };
        bounds.yesRange("i", allLaid, (x, v) -> Bounds.bit(x.lift(1, v)), 0, 3);
        for (int i = 0; i <= 3; i++) {
            Loft x = allLaid.make();
            int bolt = x.panel(1, i, 6);
            int place = x.panel(1, i, 7);
            int length = x.panel(1, i, 3);
            int left = x.left(bolt);
            due.is("it lies", x.over(bolt, place), 100 + i);
            due.yes("lift", x.lift(1, i));
            due.is("its first place", x.over(bolt, place), -1);
            due.is("its last place", x.over(bolt, place + length - 1), -1);
            due.is("left", x.left(bolt), left + length);
            due.is("on no bolt", x.panel(1, i, 6), -1);
            due.is("at no place", x.panel(1, i, 7), -1);
        }
    }

    private static void liftOfWhatIsNotLaid() {
        due.about("17 it isn't laid");
        bounds.nothing("a PANEL", RICH, x -> Bounds.bit(x.lift(1, 2)), 0);
        bounds.nothing("a PATCH", RICH, x -> Bounds.bit(x.lift(1, 3)), 0);
        Bounds.Start lifted = () -> {
            Loft x = Lofts.rich();
            x.lift(1, 0);
            return x;
        };
        bounds.nothing("again", lifted, x -> Bounds.bit(x.lift(1, 0)), 0);
    }

    private static void planOfNoSuchWorn() {
        due.about("20 worn isn't as told");
        bounds.outside("worn", PLAIN, (x, v) -> x.plan(v), 0, 100, -2);
        bounds.outside("worn", RICH, (x, v) -> x.plan(v), 0, 100, -2);
        bounds.outside("worn, nothing to lay", Lofts::bare, (x, v) -> x.plan(v), 0, 100, -2);
        bounds.act("0", PLAIN, x -> x.plan(0), -1);
        bounds.act("100", PLAIN, x -> x.plan(100), -1);
        bounds.act("100", RICH, x -> x.plan(100), -1);
    }

    private static void planOfNothing() {
        due.about("20 NONE when all is laid then");
        bounds.nothing("no sails", Lofts::bare, x -> x.plan(0), -1);
        bounds.nothing("all is laid", Lofts::fullOfBolts, x -> x.plan(0), -1);
        Bounds.Start open = () -> {
            Loft x = new Loft();
            x.sail(0, 10, 0, 10, 10);
            return x;
        };
        bounds.nothing("an OPEN one", open, x -> x.plan(0), -1);
        Bounds.Start taken = () -> {
            Loft x = Lofts.plain();
            x.plan(0);
            x.take(0);
            return x;
        };
        bounds.nothing("a TAKEN one", taken, x -> x.plan(0), -1);
    }

    private static void planThatLaysNothing() {
        due.about("20 the first one that none takes, ahead of all others");
        Bounds.Start noBolt = () -> {
            Loft x = new Loft();
            x.sail(0, 10, 0, 10, 10);
            x.cut(0, 5, 1);
            return x;
        };
        bounds.nothing("no bolts", noBolt, x -> x.plan(100), 0);
        Bounds.Start tooNarrow = () -> {
            Loft x = noBolt.make();
            x.bolt(4, 200, 0);
            return x;
        };
        bounds.nothing("too narrow, though the last PANEL fits", tooNarrow, x -> x.plan(100), 0);
        Bounds.Start second = () -> {
            Loft x = Lofts.fullOfBolts();
            x.sail(0, 6, 0, 6, 3);
            x.cut(1, 20, 17);
            x.patch(1, 0, 1, 1);
            x.lift(0, 0);
            x.lay(0, 0, 0, 190, 0);
            x.patch(0, 0, 20, 100);
            x.patch(0, 0, 20, 90);
            x.lay(0, 1, 0, 0, 0);
            x.lay(0, 2, 0, 100, 0);
            return x;
        };
        bounds.nothing("the second sail's first", second, x -> x.plan(100), 100);
    }

    private static void planUpToTheFirstThatNoneTakes() {
        due.about("20 what came ahead stays laid");
        Bounds.Start start = () -> {
            Loft x = Lofts.plain();
            x.bolt(2, 5, 0);
            x.sail(0, 201, 0, 201, 4);
            x.cut(1, 5, 1);
            x.sail(0, 1, 0, 1, 1);
            x.cut(2, 2, 1);
            return x;
        };
        bounds.act("of the second sail", start, x -> x.plan(0), 100);
        Loft x = start.make();
        x.plan(0);
        due.is("ahead", x.panel(0, 2, 6), 0);
        due.is("the one itself", x.panel(1, 0, 6), -1);
        due.is("behind", x.panel(2, 0, 6), -1);
        int acts = x.count(2);
        due.is("once more", x.plan(0), 100);
        due.is("that is no act", x.count(2), acts);
    }

    private static void planAtTheLeastPlace() {
        due.about("20 at the least such");
        for (int gap = 9; gap <= 11; gap++) {
            Loft x = Lofts.plain();
            x.patch(0, 0, 1, 100);
            x.patch(0, 0, 1, 100 - gap);
            x.patch(0, 0, 1, 1);
            x.lay(0, 3, 1, 0, 0);
            x.lay(0, 1, 0, 0, 0);
            x.lay(0, 2, 0, 10 + gap, 0);
            x.lay(0, 4, 1, 100, 0);
            x.lay(0, 5, 1, 199, 0);
            due.is("plan", x.plan(0), -1);
            due.is("a gap of " + gap, x.panel(0, 0, 7), gap >= 10 ? 10 : 20 + gap);
            due.is("on the first bolt", x.panel(0, 0, 6), 0);
        }
        Loft end = new Loft();
        end.bolt(5, 20, 0);
        end.sail(0, 10, 0, 10, 8);
        end.cut(0, 5, 1);
        due.is("to the very end", end.plan(0), -1);
        due.is("the first", end.panel(0, 0, 7), 0);
        due.is("the last", end.panel(0, 1, 7), 10);
        due.is("nothing is left", end.left(0), 0);
    }

    private static void planOnTheFirstBolt() {
        due.about("20 the first bolt (by numbers) that takes it");
        int[][] bolts = {{4, 200}, {5, 9}, {5, 10}, {20, 200}};
        Loft x = new Loft();
        for (int[] bolt : bolts) {
            x.bolt(bolt[0], bolt[1], 0);
        }
        x.sail(0, 10, 0, 10, 8);
        x.cut(0, 5, 1);
        due.is("plan", x.plan(0), -1);
        due.is("wide and long just enough", x.panel(0, 0, 6), 2);
        due.is("the next", x.panel(0, 1, 6), 3);
        Loft last = Lofts.fullOfBolts();
        last.undo();
        last.undo();
        last.bolt(20, 200, 0);
        last.patch(0, 0, 20, 100);
        last.patch(0, 0, 20, 91);
        last.lay(0, 1, 0, 0, 0);
        last.lay(0, 2, 0, 100, 0);
        due.is("plan", last.plan(0), -1);
        due.is("the 24th", last.panel(0, 0, 6), 23);
    }

    private static void planOfWornPlaces() {
        due.about("20 worn at most as told");
        int[][] places = {{24, 0, 21}, {24, 39, 21}, {24, 40, 0}, {24, 100, 0}, {25, 0, -1}, {25, 39, -1},
            {25, 40, 0}, {45, 40, 0}, {46, 40, -1}, {46, 99, -1}, {46, 100, 0}, {60, 100, 0}};
        for (int[] row : places) {
            Loft x = new Loft();
            x.bolt(5, 60, 0);
            x.row(0, 46);
            x.wear(0, 20, 40);
            x.wear(0, 45, 100);
            x.sail(0, row[0], 0, row[0], 4);
            x.cut(0, 5, 1);
            due.is("length " + row[0] + ", worn " + row[1], x.plan(row[1]), row[2] == -1 ? 0 : -1);
            due.is("place", x.panel(0, 0, 7), row[2]);
        }
    }

    private static void planOfAllThereCanBe() {
        due.about("20 ten sails of 40 each");
        Loft x = new Loft();
        for (int b = 0; b < 24; b++) {
            x.bolt(2, 200, 0);
        }
        for (int s = 0; s < 10; s++) {
            x.sail(0, 12, 0, 12, 40);
            x.cut(s, 2, 1);
        }
        due.is("384 of them fit", x.plan(0), 924);
        due.is("the last that fits", x.panel(9, 23, 6), 23);
        due.is("its place", x.panel(9, 23, 7), 180);
        due.is("the first that doesn't", x.panel(9, 24, 6), -1);
        for (int b = 0; b < 24; b++) {
            due.is("left", x.left(b), 8);
        }
        due.yes("undo", x.undo());
        due.is("the last doesn't lie any more", x.panel(9, 23, 6), -1);
        for (int b = 0; b < 24; b++) {
            due.is("all is left", x.left(b), 200);
        }
    }

    private static void planByNumbers() {
        due.about("20 by sails, then by i");
        Loft x = new Loft();
        x.bolt(5, 200, 0);
        for (int s = 0; s < 3; s++) {
            x.sail(0, 5 + s, 0, 5 + s, 8);
        }
        x.cut(2, 5, 1);
        x.cut(0, 5, 1);
        x.patch(0, 0, 1, 3);
        due.is("plan", x.plan(0), -1);
        int[][] want = {{0, 0, 0}, {0, 1, 5}, {0, 2, 10}, {2, 0, 13}, {2, 1, 20}};
        for (int[] row : want) {
            due.is("place of " + row[0] + ", " + row[1], x.panel(row[0], row[1], 7), row[2]);
        }
    }

    private static void fewestOfNoSuchWorn() {
        due.about("21 worn of 0 to 100");
        bounds.outside("worn", PLAIN, (x, v) -> x.fewest(0, v), 0, 100, -1);
        bounds.outside("worn, none to lay", Lofts::fullOfBolts, (x, v) -> x.fewest(0, v), 0, 100, -1);
        bounds.nothing("0", PLAIN, x -> x.fewest(0, 0), 1);
        bounds.nothing("100", PLAIN, x -> x.fewest(0, 100), 1);
    }

    private static void fewestOfWhatIsNotCut() {
        due.about("21 no such sail that is CUT");
        bounds.outside("sail", RICH, (x, v) -> x.fewest(v, 100), 0, 2, -1);
        bounds.outside("sail", Lofts::fullOfSails, (x, v) -> x.fewest(v, 0), 0, 9, -1);
        bounds.nothing("OPEN", RICH, x -> x.fewest(2, 100), -1);
        bounds.nothing("TAKEN", RICH, x -> x.fewest(0, 100), -1);
        bounds.nothing("CUT", RICH, x -> x.fewest(1, 100), 1);
        bounds.nothing("the last", Lofts::fullOfSails, x -> x.fewest(9, 0), 1);
    }

    private static void fewestOfNone() {
        due.about("21 0 of none");
        bounds.nothing("no bare bolt fits", Lofts::fullOfBolts, x -> x.fewest(0, 0), 0);
        Loft x = new Loft();
        x.bolt(2, 1, 0);
        x.sail(0, 1, 0, 1, 1);
        x.cut(0, 2, 1);
        due.is("one", x.fewest(0, 0), 1);
        x.lay(0, 0, 0, 0, 0);
        due.is("none, and no bare bolt at all", x.fewest(0, 0), 0);
        x.lift(0, 0);
        due.is("one again", x.fewest(0, 0), 1);
    }

    private static void fewestOfMoreThan8() {
        due.about("21 more than 8 of these");
        for (int many = 7; many <= 10; many++) {
            Loft x = new Loft();
            x.bolt(20, 200, 0);
            x.bolt(20, 200, 0);
            x.sail(0, 1, 0, 1, many);
            x.cut(0, 2, 1);
            due.is(many + " PANELS", x.fewest(0, 0), many <= 8 ? 1 : -1);
            x.lay(0, many - 1, 1, 0, 0);
            due.is(many + " but for one that is laid", x.fewest(0, 0), many <= 9 ? 1 : -1);
            x.patch(0, 0, 1, 1);
            due.is(many + " and a PATCH in its stead", x.fewest(0, 0), many <= 8 ? 1 : -1);
        }
    }

    private static void fewestOnWhatNothingLies() {
        due.about("21 bolts on which nothing lies");
        Loft x = Lofts.plain();
        x.patch(0, 0, 1, 1);
        due.is("two bare bolts", x.fewest(0, 0), 1);
        x.lay(0, 3, 0, 199, 0);
        due.is("one bare bolt", x.fewest(0, 0), 1);
        x.sail(0, 1, 0, 1, 1);
        x.cut(1, 2, 1);
        x.lay(1, 0, 1, 0, 0);
        due.is("no bare bolt", x.fewest(0, 0), -1);
        x.lift(1, 0);
        due.is("bare again", x.fewest(0, 0), 1);
        x.lay(1, 0, 1, 0, 0);
        x.take(1);
        due.is("what was taken still lies", x.fewest(0, 0), -1);
        due.is("and the old one is too small", x.left(2), 1);
    }

    private static void fewestOnWornBolts() {
        due.about("21 worn at most as told everywhere");
        for (int k : new int[] {0, 100, 199}) {
            for (int v : new int[] {1, 50, 100}) {
                Loft x = new Loft();
                x.bolt(20, 200, 0);
                x.row(0, 200);
                x.wear(0, k, v);
                x.sail(0, 1, 0, 1, 1);
                x.cut(0, 2, 1);
                due.is("below", x.fewest(0, v - 1), -1);
                due.is("at it", x.fewest(0, v), 1);
                due.is("above", x.fewest(0, 100), 1);
                x.row(0, 0);
                due.is("not worn", x.fewest(0, 0), 1);
            }
        }
    }

    private static void fewestOfJustEnough() {
        due.about("21 that take all");
        int[][] bolts = {{5, 30, 1}, {5, 29, -1}, {4, 200, -1}, {6, 31, 1}};
        for (int[] bolt : bolts) {
            Loft x = new Loft();
            x.bolt(bolt[0], bolt[1], 0);
            x.sail(0, 10, 0, 10, 10);
            x.cut(0, 5, 1);
            due.is(bolt[0] + " by " + bolt[1], x.fewest(0, 0), bolt[2]);
        }
        Loft x = new Loft();
        x.sail(0, 10, 0, 10, 10);
        x.cut(0, 5, 1);
        due.is("no bolts", x.fewest(0, 0), -1);
        x.bolt(5, 20, 0);
        x.bolt(3, 9, 0);
        due.is("the last PANEL isn't taken", x.fewest(0, 0), -1);
        x.bolt(3, 10, 0);
        due.is("on a narrow one", x.fewest(0, 0), 2);
        x.bolt(5, 9, 0);
        x.bolt(5, 10, 0);
        due.is("no fewer with more", x.fewest(0, 0), 2);
    }

    private static void fewestOfAllBolts() {
        due.about("21 of 24 bolts");
        Loft x = new Loft();
        for (int b = 0; b < 23; b++) {
            x.bolt(2, 9, 0);
        }
        x.sail(0, 10, 0, 10, 8);
        x.cut(0, 2, 1);
        due.is("none of 23", x.fewest(0, 0), -1);
        x.bolt(2, 80, 0);
        due.is("the 24th takes all", x.fewest(0, 0), 1);
        x.undo();
        x.bolt(2, 79, 0);
        due.is("the 24th takes seven", x.fewest(0, 0), -1);
        for (int b = 0; b < 17; b++) {
            x.undo();
        }
        due.is("what can be undone is", x.count(2), 0);
        Loft eight = new Loft();
        for (int b = 0; b < 9; b++) {
            eight.bolt(2, 19, 0);
        }
        eight.sail(0, 10, 0, 10, 8);
        eight.cut(0, 2, 1);
        due.is("one on each", eight.fewest(0, 0), 8);
        eight.lay(0, 0, 5, 0, 0);
        due.is("seven on each", eight.fewest(0, 0), 7);
    }

    private static void fewestIsTheLeast() {
        due.about("21 the least number");
        Loft two = new Loft();
        two.bolt(5, 20, 0);
        two.bolt(5, 20, 0);
        two.sail(0, 10, 0, 10, 16);
        two.cut(0, 5, 1);
        due.is("two and two", two.fewest(0, 0), 2);
        two.bolt(5, 40, 0);
        due.is("all on a later one", two.fewest(0, 0), 1);
        Loft x = new Loft();
        int[] bolts = {10, 10, 10, 12, 12};
        for (int length : bolts) {
            x.bolt(4, length, 0);
        }
        x.sail(0, 1, 0, 1, 1);
        x.cut(0, 2, 1);
        x.bolt(2, 1, 0);
        x.lay(0, 0, 5, 0, 0);
        int[] lengths = {6, 6, 5, 5, 4, 4};
        for (int length : lengths) {
            x.patch(0, 0, 4, length);
        }
        due.is("6 6, 5 5, 4 4", x.fewest(0, 0), 3);
        x.patch(0, 0, 4, 2);
        due.is("6 6, 5 5 2, 4 4", x.fewest(0, 0), 3);
        x.patch(0, 0, 4, 2);
        due.is("6 6, 5 5 2, 4 4 2", x.fewest(0, 0), 3);
        x.undo();
        x.patch(0, 0, 4, 3);
        due.is("35 places, 34 of the longest three", x.fewest(0, 0), 4);
    }
}
