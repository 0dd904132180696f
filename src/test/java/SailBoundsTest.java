/** The bounds of SAILS while they are shaped: promises 6 to 10. */
public final class SailBoundsTest {
    private static final Bounds.Start BARE = Lofts::bare;
    private static final Bounds.Start RICH = Lofts::rich;
    private static final Bounds.Start CUT_WITH_ROWS = SailBoundsTest::cutWithRows;
    private static final Bounds.Start TAKEN_WITH_ROWS = SailBoundsTest::takenWithRows;

    private static final Due due = new Due();
    private static final Bounds bounds = new Bounds(due);

    public static void main(String[] args) {
        endsOfTheFootAndTheHead();
        heightOfASail();
        sails10();
        aNewSailIsOpen();
        placesOfAnEdge();
        sidesOfAnEdge();
        edgeOfNoSuchSail();
        edgeOfWhatIsNotOpen();
        edgeIsAll0();
        edgeIsAll0AfterManyActs();
        edgeOf0IsMissing();
        placesToStand();
        howFarToStand();
        sidesToStand();
        standOfNoSuchSail();
        standWhereTheRowTellsNothing();
        standOfWhatIsNotOpen();
        heightsOfAt();
        sidesOfAt();
        atOfNoSuchSail();
        atInEachState();
        theQuotientIsCutTowards0();
        theFarthestEdges();
        widthToCut();
        seamToCut();
        seamOfTheNarrowest();
        cutOfNoSuchSail();
        cutOfWhatIsNotOpen();
        cutWhereEdgesMeet();
        cutOfEdgesThatCross();
        panels40();
        panelsEndAtTheHead();
        due.end();
    }

    private static Loft openWithRows() {
        Loft x = Lofts.plain();
        x.sail(0, 10, 0, 10, 4);
        x.edge(1, 0, 5);
        x.edge(1, 1, 2);
        x.stand(1, 0, 4, -2);
        x.stand(1, 1, 1, 3);
        return x;
    }

    private static Loft cutWithRows() {
        Loft x = openWithRows();
        x.cut(1, 5, 1);
        return x;
    }

    private static Loft takenWithRows() {
        Loft x = cutWithRows();
        x.lay(1, 0, 0, 5, 0);
        x.take(1);
        return x;
    }

    private static void endsOfTheFootAndTheHead() {
        due.about("6 -500 to 500 each");
        bounds.range("footLeft", RICH, (x, v) -> x.sail(v, 1, 0, 1, 9), -500, 500, 3, -1);
        bounds.range("footRight", RICH, (x, v) -> x.sail(0, v, 0, 1, 9), -500, 500, 3, -1);
        bounds.range("headLeft", RICH, (x, v) -> x.sail(0, 1, v, 1, 9), -500, 500, 3, -1);
        bounds.range("headRight", RICH, (x, v) -> x.sail(0, 1, 0, v, 9), -500, 500, 3, -1);
        bounds.act("all at their ends", BARE, x -> x.sail(-500, 500, 500, -500, 1), 0);
        Loft x = new Loft();
        x.sail(-500, 499, 500, -499, 3);
        int[] got = {x.at(0, 0, 0), x.at(0, 1, 0), x.at(0, 0, 3), x.at(0, 1, 3)};
        int[] want = {-500, 499, 500, -499};
        for (int end = 0; end < 4; end++) {
            due.is("end " + end, got[end], want[end]);
        }
    }

    private static void heightOfASail() {
        due.about("6 a HEIGHT of 1 to 60");
        bounds.range("height", RICH, (x, v) -> x.sail(0, 1, 0, 1, v), 1, 60, 3, -1);
        bounds.range("height", BARE, (x, v) -> x.sail(0, 1, 0, 1, v), 1, 60, 0, -1);
        for (int height : new int[] {1, 2, 59, 60}) {
            Loft x = new Loft();
            x.sail(0, 1, 0, 1, height);
            due.is("H", x.told(0, 8), height);
            due.is("the head", x.at(0, 1, height), 1);
            due.is("above", x.at(0, 1, height + 1), -10000);
        }
    }

    private static void sails10() {
        due.about("6 there are 10");
        bounds.nothing("the 11th", Lofts::fullOfSails, x -> x.sail(0, 1, 0, 1, 1), -1);
        Bounds.Start nine = () -> {
            Loft x = new Loft();
            for (int s = 0; s < 9; s++) {
                x.sail(s, 10, 0, 10, 1 + s);
            }
            return x;
        };
        bounds.act("the 10th", nine, x -> x.sail(0, 1, 0, 1, 1), 9);
        Loft x = nine.make();
        x.sail(0, 1, 0, 1, 1);
        due.is("the 11th", x.sail(0, 1, 0, 1, 1), -1);
        x.undo();
        due.is("the 10th again", x.sail(0, 1, 0, 1, 60), 9);
        due.is("as it is now", x.told(9, 8), 60);
        Loft taken = Lofts.fullOfSails();
        taken.plan(0);
        taken.take(9);
        due.is("a sail that is taken is still one", taken.sail(0, 1, 0, 1, 1), -1);
    }

    private static void aNewSailIsOpen() {
        due.about("6 its ROWS are missing");
        Loft x = Lofts.rich();
        int sail = x.sail(1, 2, 3, 4, 60);
        for (int side = 0; side <= 1; side++) {
            due.no("the foot isn't told", x.stand(sail, side, 0, 1));
            due.no("the head isn't told", x.stand(sail, side, 60, 1));
        }
        int[] want = {0, 0, 0, 120, 0, 0, 0, 0, 60};
        for (int what = 0; what <= 8; what++) {
            due.is("told " + what, x.told(sail, what), want[what]);
        }
    }

    private static void placesOfAnEdge() {
        due.about("7 0 to H + 1");
        for (int side = 0; side <= 1; side++) {
            int of = side;
            bounds.yesRange("n", RICH, (x, v) -> Bounds.bit(x.edge(2, of, v)), 0, 7);
        }
        Bounds.Start ends = () -> {
            Loft x = new Loft();
            x.sail(0, 1, 0, 1, 1);
            x.sail(0, 1, 0, 1, 60);
            return x;
        };
        bounds.yesRange("n, of the lowest", ends, (x, v) -> Bounds.bit(x.edge(0, 0, v)), 0, 2);
        bounds.yesRange("n, of the highest", ends, (x, v) -> Bounds.bit(x.edge(1, 1, v)), 0, 61);
    }

    private static void sidesOfAnEdge() {
        due.about("7 side 0 left, 1 right");
        bounds.yesRange("side", RICH, (x, v) -> Bounds.bit(x.edge(2, v, 4)), 0, 1);
    }

    private static void edgeOfNoSuchSail() {
        due.about("7 a sail's");
        bounds.outside("sail", RICH, (x, v) -> Bounds.bit(x.edge(v, 0, 1)), 0, 2, 0);
        bounds.outside("sail", RICH, (x, v) -> Bounds.bit(x.edge(v, 0, 0)), 0, 2, 0);
        bounds.outside("sail", Lofts::fullOfSails, (x, v) -> Bounds.bit(x.edge(v, 0, 0)), 0, 9, 0);
    }

    private static void edgeOfWhatIsNotOpen() {
        due.about("7 the sail isn't OPEN");
        for (int n : new int[] {0, 1, 5}) {
            bounds.act("open, " + n, SailBoundsTest::openWithRows, x -> Bounds.bit(x.edge(1, 0, n)), 1);
            bounds.nothing("cut, " + n, CUT_WITH_ROWS, x -> Bounds.bit(x.edge(1, 0, n)), 0);
            bounds.nothing("taken, " + n, TAKEN_WITH_ROWS, x -> Bounds.bit(x.edge(1, 0, n)), 0);
        }
        Bounds.Start openAgain = () -> {
            Loft x = cutWithRows();
            x.undo();
            return x;
        };
        bounds.act("open again", openAgain, x -> Bounds.bit(x.edge(1, 1, 5)), 1);
    }

    private static void edgeIsAll0() {
        due.about("7 all 0");
        for (int n : new int[] {1, 2, 5}) {
            Loft x = openWithRows();
            x.edge(1, 0, n);
            x.edge(1, 1, n);
            for (int y = 0; y <= 4; y++) {
                due.is("left at " + y, x.at(1, 0, y), 0);
                due.is("right at " + y, x.at(1, 1, y), 10);
            }
        }
        Loft x = openWithRows();
        x.edge(1, 0, 1);
        due.is("the other side stays", x.at(1, 1, 1), 13);
    }

    private static void edgeIsAll0AfterManyActs() {
        due.about("7 all 0, whatever rows there were");
        Loft x = new Loft();
        x.sail(0, 5, 0, 5, 60);
        for (int round = 0; round < 40; round++) {
            int side = round % 2;
            due.yes("edge", x.edge(0, side, 61));
            for (int y = 0; y <= 60; y += 30) {
                due.is("at " + y, x.at(0, side, y), 5 * side);
            }
            due.yes("stand", x.stand(0, side, round % 3 * 30, -200));
        }
    }

    private static void edgeOf0IsMissing() {
        due.about("7 the ROW may be missing");
        Loft x = openWithRows();
        due.yes("edge of 1", x.edge(1, 0, 1));
        due.yes("the foot is told", x.stand(1, 0, 0, 1));
        due.yes("edge of 0", x.edge(1, 0, 0));
        due.no("the foot isn't told", x.stand(1, 0, 0, 1));
        due.is("0 where it doesn't tell", x.at(1, 0, 0), 0);
    }

    private static void placesToStand() {
        due.about("8 a place that the ROW tells");
        bounds.yesRange("y, left", RICH, (x, v) -> Bounds.bit(x.stand(2, 0, v, 7)), 0, 6);
        bounds.yesRange("y, right", RICH, (x, v) -> Bounds.bit(x.stand(2, 1, v, 7)), 0, 2);
        Bounds.Start highest = () -> {
            Loft x = new Loft();
            x.sail(0, 1, 0, 1, 60);
            x.edge(0, 1, 61);
            return x;
        };
        bounds.yesRange("y", highest, (x, v) -> Bounds.bit(x.stand(0, 1, v, 7)), 0, 60);
    }

    private static void howFarToStand() {
        due.about("8 v of -200 to 200");
        bounds.yesRange("v", RICH, (x, v) -> Bounds.bit(x.stand(2, 0, 6, v)), -200, 200);
        bounds.yesRange("v", RICH, (x, v) -> Bounds.bit(x.stand(2, 1, 0, v)), -200, 200);
        for (int v : new int[] {-200, -199, -129, -128, 127, 128, 199, 200}) {
            Loft x = Lofts.rich();
            x.stand(2, 0, 6, v);
            due.is("at", x.at(2, 0, 6), 2 + v);
            due.is("below", x.at(2, 0, 5), 1);
        }
    }

    private static void sidesToStand() {
        due.about("8 side 0 left, 1 right");
        bounds.yesRange("side", RICH, (x, v) -> Bounds.bit(x.stand(2, v, 1, 9)), 0, 1);
    }

    private static void standOfNoSuchSail() {
        due.about("8 no such sail");
        bounds.outside("sail", RICH, (x, v) -> Bounds.bit(x.stand(v, 0, 0, 1)), 0, 2, 0);
        bounds.outside("sail", Lofts::fullOfSails, (x, v) -> Bounds.bit(x.stand(v, 0, 0, 1)), 0, 9, 0);
    }

    private static void standWhereTheRowTellsNothing() {
        due.about("8 the ROW doesn't tell that place");
        bounds.nothing("behind it", RICH, x -> Bounds.bit(x.stand(2, 1, 3, 1)), 0);
        bounds.nothing("at the head", RICH, x -> Bounds.bit(x.stand(2, 1, 6, 1)), 0);
        Bounds.Start missing = () -> {
            Loft x = Lofts.rich();
            x.edge(2, 1, 0);
            return x;
        };
        bounds.nothing("a missing one", missing, x -> Bounds.bit(x.stand(2, 1, 0, 1)), 0);
        bounds.act("the other side's", missing, x -> Bounds.bit(x.stand(2, 0, 0, 1)), 1);
    }

    private static void standOfWhatIsNotOpen() {
        due.about("8 the sail isn't OPEN");
        bounds.act("open", SailBoundsTest::openWithRows, x -> Bounds.bit(x.stand(1, 0, 4, 1)), 1);
        for (int y : new int[] {0, 4}) {
            bounds.nothing("cut", CUT_WITH_ROWS, x -> Bounds.bit(x.stand(1, 0, y, 1)), 0);
            bounds.nothing("taken", TAKEN_WITH_ROWS, x -> Bounds.bit(x.stand(1, 0, y, 1)), 0);
        }
    }

    private static void heightsOfAt() {
        due.about("9 a height y of 0 to H");
        for (int side = 0; side <= 1; side++) {
            int of = side;
            bounds.outside("y", RICH, (x, v) -> x.at(2, of, v), 0, 6, -10000);
        }
        bounds.nothing("the left foot", RICH, x -> x.at(2, 0, 0), 0);
        bounds.nothing("the left head", RICH, x -> x.at(2, 0, 6), 2 - 4);
        bounds.nothing("the right foot", RICH, x -> x.at(2, 1, 0), 8);
        bounds.nothing("the right head", RICH, x -> x.at(2, 1, 6), 9);
        bounds.nothing("the ROW's last", RICH, x -> x.at(2, 1, 2), 8 + 5);
        bounds.nothing("behind the ROW", RICH, x -> x.at(2, 1, 3), 8);
    }

    private static void sidesOfAt() {
        due.about("9 side 0 left, 1 right");
        bounds.outside("side", RICH, (x, v) -> x.at(2, v, 0), 0, 1, -10000);
    }

    private static void atOfNoSuchSail() {
        due.about("9 there is none such");
        bounds.outside("sail", RICH, (x, v) -> x.at(v, 0, 0), 0, 2, -10000);
        bounds.outside("sail", Lofts::fullOfSails, (x, v) -> x.at(v, 0, 0), 0, 9, -10000);
        bounds.nothing("the last", Lofts::fullOfSails, x -> x.at(9, 1, 2), 3);
    }

    private static void atInEachState() {
        due.about("9 the EDGE in each state");
        Bounds.Start[] states = {SailBoundsTest::openWithRows, CUT_WITH_ROWS, TAKEN_WITH_ROWS};
        for (int state = 0; state < 3; state++) {
            Loft x = states[state].make();
            due.is("state", x.told(1, 0), state);
            int[] left = {0, 0, 0, 0, -2};
            int[] right = {10, 13, 10, 10, 10};
            for (int y = 0; y <= 4; y++) {
                due.is("left at " + y, x.at(1, 0, y), left[y]);
                due.is("right at " + y, x.at(1, 1, y), right[y]);
            }
        }
    }

    private static void theQuotientIsCutTowards0() {
        due.about("9 the quotient cut towards 0");
        Loft x = new Loft();
        x.sail(100, 100, 99, 101, 60);
        for (int y = 0; y <= 60; y++) {
            due.is("falling, at " + y, x.at(0, 0, y), y == 60 ? 99 : 100);
            due.is("rising, at " + y, x.at(0, 1, y), y == 60 ? 101 : 100);
        }
        x.sail(-7, 7, -12, 12, 3);
        int[] rise = {0, 1, 3, 5};
        for (int y = 0; y <= 3; y++) {
            due.is("falling, at " + y, x.at(1, 0, y), -7 - rise[y]);
            due.is("rising, at " + y, x.at(1, 1, y), 7 + rise[y]);
        }
    }

    private static void theFarthestEdges() {
        due.about("9 the farthest EDGES");
        Loft x = new Loft();
        x.sail(-500, 500, 500, -500, 59);
        for (int y = 0; y <= 59; y++) {
            due.is("rising, at " + y, x.at(0, 0, y), -500 + 1000 * y / 59);
            due.is("falling, at " + y, x.at(0, 1, y), 500 - 1000 * y / 59);
        }
        x.edge(0, 0, 60);
        x.edge(0, 1, 60);
        x.stand(0, 0, 0, -200);
        x.stand(0, 0, 59, 200);
        x.stand(0, 1, 0, 200);
        x.stand(0, 1, 59, -200);
        int[] got = {x.at(0, 0, 0), x.at(0, 0, 59), x.at(0, 1, 0), x.at(0, 1, 59)};
        int[] want = {-700, 700, 700, -700};
        for (int end = 0; end < 4; end++) {
            due.is("end " + end, got[end], want[end]);
        }
    }

    private static Bounds.Start openSail(int height) {
        return () -> {
            Loft x = Lofts.plain();
            x.sail(0, 10, 0, 10, height);
            return x;
        };
    }

    private static void widthToCut() {
        due.about("10 w of 2 to 20");
        Bounds.Start open = openSail(38);
        bounds.act("w 2", open, x -> x.cut(1, 2, 1), 38);
        bounds.act("w 20", open, x -> x.cut(1, 20, 1), 2);
        bounds.outside("w", open, (x, v) -> x.cut(1, v, 1), 2, 20, -1);
        bounds.nothing("w 1 without a SEAM", open, x -> x.cut(1, 1, 0), -1);
        bounds.nothing("w 21 with a SEAM of 20", open, x -> x.cut(1, 21, 20), -1);
    }

    private static void seamToCut() {
        due.about("10 a SEAM of 1 to w - 1");
        Bounds.Start open = openSail(38);
        bounds.act("SEAM 1", open, x -> x.cut(1, 20, 1), 2);
        bounds.act("SEAM 19", open, x -> x.cut(1, 20, 19), 38);
        bounds.outside("SEAM of 20", open, (x, v) -> x.cut(1, 20, v), 1, 19, -1);
        bounds.act("SEAM 4", open, x -> x.cut(1, 5, 4), 38);
        bounds.outside("SEAM of 5", open, (x, v) -> x.cut(1, 5, v), 1, 4, -1);
    }

    private static void seamOfTheNarrowest() {
        due.about("10 a SEAM of 1 to w - 1, w 2");
        bounds.outside("SEAM of 2", openSail(38), (x, v) -> x.cut(1, 2, v), 1, 1, -1);
    }

    private static void cutOfNoSuchSail() {
        due.about("10 no such sail");
        bounds.outside("sail", RICH, (x, v) -> x.cut(v, 5, 1), 0, 2, -1);
        bounds.outside("sail", Lofts::fullOfSails, (x, v) -> x.cut(v, 5, 1), 0, 9, -1);
        bounds.act("the last", RICH, x -> x.cut(2, 5, 1), 2);
    }

    private static void cutOfWhatIsNotOpen() {
        due.about("10 it isn't OPEN");
        bounds.nothing("cut", CUT_WITH_ROWS, x -> x.cut(1, 5, 1), -1);
        bounds.nothing("taken", TAKEN_WITH_ROWS, x -> x.cut(1, 5, 1), -1);
        bounds.nothing("cut", RICH, x -> x.cut(1, 3, 1), -1);
        bounds.nothing("taken", RICH, x -> x.cut(0, 3, 1), -1);
        Bounds.Start openAgain = () -> {
            Loft x = cutWithRows();
            x.undo();
            return x;
        };
        bounds.act("open again", openAgain, x -> x.cut(1, 3, 1), 2);
    }

    private static Bounds.Start standing(int side, int y, int v) {
        return () -> {
            Loft x = new Loft();
            x.sail(0, 5, 0, 5, 6);
            x.edge(0, side, 7);
            x.stand(0, side, y, v);
            return x;
        };
    }

    private static void cutWhereEdgesMeet() {
        due.about("10 an EDGE at the left is not less than the one at the right");
        for (int y = 0; y <= 6; y++) {
            bounds.act("1 apart at " + y, standing(0, y, 4), x -> x.cut(0, 4, 1), 2);
            bounds.nothing("meet at " + y, standing(0, y, 5), x -> x.cut(0, 4, 1), -1);
            bounds.nothing("cross at " + y, standing(0, y, 6), x -> x.cut(0, 4, 1), -1);
            bounds.act("1 apart at " + y, standing(1, y, -4), x -> x.cut(0, 4, 1), 2);
            bounds.nothing("meet at " + y, standing(1, y, -5), x -> x.cut(0, 4, 1), -1);
        }
    }

    private static void cutOfEdgesThatCross() {
        due.about("10 straight EDGES that meet");
        int[][] wrong = {{0, 0, 0, 5}, {0, 5, 0, 0}, {0, 5, 5, 5}, {5, 0, 5, 0}, {0, 5, 6, 5}};
        for (int[] ends : wrong) {
            Bounds.Start start = () -> {
                Loft x = Lofts.plain();
                x.sail(ends[0], ends[1], ends[2], ends[3], 9);
                return x;
            };
            bounds.nothing("meet", start, x -> x.cut(1, 5, 1), -1);
        }
        Bounds.Start narrowest = () -> {
            Loft x = Lofts.plain();
            x.sail(4, 5, -500, -499, 9);
            return x;
        };
        bounds.act("1 apart", narrowest, x -> x.cut(1, 5, 1), 3);
    }

    private static void panels40() {
        due.about("10 there would be more than 40");
        bounds.act("40 of 1", openSail(40), x -> x.cut(1, 2, 1), 40);
        bounds.act("40 of 1", openSail(40), x -> x.cut(1, 20, 19), 40);
        bounds.nothing("41 of 1", openSail(41), x -> x.cut(1, 2, 1), -1);
        bounds.nothing("60 of 1", openSail(60), x -> x.cut(1, 20, 19), -1);
        bounds.act("30 of 2", openSail(60), x -> x.cut(1, 3, 1), 30);
        bounds.act("21 of 2", openSail(41), x -> x.cut(1, 3, 1), 21);
        Loft x = openSail(60).make();
        due.is("60 of 1", x.cut(1, 2, 1), -1);
        due.is("it is still OPEN", x.told(1, 0), 0);
        due.is("another way", x.cut(1, 3, 1), 30);
        for (int height = 1; height <= 60; height++) {
            for (int h = 1; h <= 19; h++) {
                int many = (height + h - 1) / h;
                Loft y = openSail(height).make();
                due.is(height + " by " + h, y.cut(1, h + 1, 1), many > 40 ? -1 : many);
            }
        }
    }

    private static void panelsEndAtTheHead() {
        due.about("10 up to (i + 1) h, or to H if that's less");
        for (int height : new int[] {1, 3, 4, 5, 7, 8, 9}) {
            Loft x = openSail(height).make();
            int many = x.cut(1, 6, 2);
            due.is("PANELS", many, (height + 3) / 4);
            for (int i = 0; i < many; i++) {
                int high = Math.min(height, 4 * i + 4);
                due.is("lower", x.panel(1, i, 1), 4 * i);
                due.is("upper", x.panel(1, i, 2), high);
                due.is("breadth", x.panel(1, i, 4), high - 4 * i + 2);
                due.is("TWICE its area", x.panel(1, i, 5), 20 * (high - 4 * i));
            }
            due.is("none above H", x.panel(1, many, 1), -1);
        }
    }
}
